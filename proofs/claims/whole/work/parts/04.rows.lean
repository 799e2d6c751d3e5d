/-- what stands fixed in a method's body -/
def jr_C (p : Program) (s : State) (m : MethodId) (args : Array Value) (c : Code) (cc : ByteArray) (nL : Nat) (own : String) (Ts : List Cond) (D : va_G) (cl : List vw_C) (tys : List (ClassId × FieldType)) (A : Nat → Prop) : Prop :=
  p.tables.exec = Jvm.exec ∧ c.code = cc ∧ c.maxLocals = nL ∧ s.vm.findClass own = some m.cls ∧ (∀ w ∈ Ts, w.before args s = true) ∧ va_K D cl tys s ∧ (∀ q : Nat, s.heap.size ≤ q → A q) ∧ jN s
/-- the machine at pc, with locals lv, operand stack stk and the world ws, comes to Q -/
def jr_J (p : Program) (l : Launch) (e : Env) (R : Room) (s : State) (m : MethodId) (args : Array Value) (below : List Frame) (meth : Method) (c : Code) (A : Nat → Prop) (D : va_G) (cl : List vw_C) (nL cells slots : Nat) (Q : State → Prop) (ws : va_W) (pc : Nat) (lv : List (Nat × Value)) (stk : List Value) : Prop :=
  ∀ (H : Heap) (locs : List Loc) (ls : Array Slot), va_P D cl ws H → va_D A ws → va_S A s.heap H locs → lv_has ls nL lv → W p l e R s m args below meth c H locs cells slots Q (F0 m pc ls stk)
section JR
variable {p : Program} {l : Launch} {e : Env} {R : Room} {s : State} {m : MethodId} {args : Array Value} {below : List Frame} {meth : Method} {c : Code} {A : Nat → Prop} {D : va_G} {cl : List vw_C} {nL cells slots : Nat} {Q : State → Prop} {ws : va_W} {pc : Nat} {lv : List (Nat × Value)} {rest : List Value}
variable {cc : ByteArray} {own : String} {Ts : List Cond} {tys : List (ClassId × FieldType)}
theorem jr_iconst (C : jr_C p s m args c cc nL own Ts D cl tys A) {n : Int} {v : Int32} (hdg : decode cc pc = .ok (.iconst n, 1)) (hv : Int32.ofInt n = v) (kk : jr_J p l e R s m args below meth c A D cl nL cells slots Q ws (pc + 1) lv (.int v :: rest)) : jr_J p l e R s m args below meth c A D cl nL cells slots Q ws pc lv rest :=
  fun H locs ls hP hD hS hl => lv_iconst C.1 C.2.1 hdg hv (kk H locs ls hP hD hS hl)
theorem jr_bipush (C : jr_C p s m args c cc nL own Ts D cl tys A) {n : Int} {v : Int32} (hdg : decode cc pc = .ok (.bipush n, 2)) (hv : (Int8.ofInt n).toInt32 = v) (kk : jr_J p l e R s m args below meth c A D cl nL cells slots Q ws (pc + 2) lv (.int v :: rest)) : jr_J p l e R s m args below meth c A D cl nL cells slots Q ws pc lv rest :=
  fun H locs ls hP hD hS hl => lv_bipush C.1 C.2.1 hdg hv (kk H locs ls hP hD hS hl)
theorem jr_sipush (C : jr_C p s m args c cc nL own Ts D cl tys A) {n : Int} {v : Int32} (hdg : decode cc pc = .ok (.sipush n, 3)) (hv : (Int16.ofInt n).toInt32 = v) (kk : jr_J p l e R s m args below meth c A D cl nL cells slots Q ws (pc + 3) lv (.int v :: rest)) : jr_J p l e R s m args below meth c A D cl nL cells slots Q ws pc lv rest :=
  fun H locs ls hP hD hS hl => lv_sipush C.1 C.2.1 hdg hv (kk H locs ls hP hD hS hl)
theorem jr_lconst (C : jr_C p s m args c cc nL own Ts D cl tys A) {n : Fin 2} {v : Int64} (hdg : decode cc pc = .ok (.lconst n, 1)) (hv : Int64.ofNat (n : Nat) = v) (kk : jr_J p l e R s m args below meth c A D cl nL cells slots Q ws (pc + 1) lv (.long v :: rest)) : jr_J p l e R s m args below meth c A D cl nL cells slots Q ws pc lv rest :=
  fun H locs ls hP hD hS hl => lv_lconst C.1 C.2.1 hdg hv (kk H locs ls hP hD hS hl)
theorem jr_iload_n (C : jr_C p s m args c cc nL own Ts D cl tys A) {k : Fin 4} {i q : Nat} {x : Int32} (hdg : decode cc pc = .ok (.iload_n k, 1)) (hi : (k : Nat) = i) (hq : lv[q]? = some (i, .int x)) (kk : jr_J p l e R s m args below meth c A D cl nL cells slots Q ws (pc + 1) lv (.int x :: rest)) : jr_J p l e R s m args below meth c A D cl nL cells slots Q ws pc lv rest :=
  fun H locs ls hP hD hS hl => lv_iload_n C.1 C.2.1 hdg hi (lv_at hl q hq) (kk H locs ls hP hD hS hl)
theorem jr_iload (C : jr_C p s m args c cc nL own Ts D cl tys A) {i q : Nat} {x : Int32} (hdg : decode cc pc = .ok (.iload i, 2)) (hq : lv[q]? = some (i, .int x)) (kk : jr_J p l e R s m args below meth c A D cl nL cells slots Q ws (pc + 2) lv (.int x :: rest)) : jr_J p l e R s m args below meth c A D cl nL cells slots Q ws pc lv rest :=
  fun H locs ls hP hD hS hl => lv_iload C.1 C.2.1 hdg (lv_at hl q hq) (kk H locs ls hP hD hS hl)
theorem jr_istore_n (C : jr_C p s m args c cc nL own Ts D cl tys A) {k : Fin 4} {i : Nat} {x : Int32} {lv' : List (Nat × Value)} (hdg : decode cc pc = .ok (.istore_n k, 1)) (hi : (k : Nat) = i) (hn : i < nL) (hv : (i, Value.int x) :: lv.filter (fun q => !(q.1 == i) && !(q.1 + 1 == i && q.2.category == 2)) = lv') (kk : jr_J p l e R s m args below meth c A D cl nL cells slots Q ws (pc + 1) lv' rest) : jr_J p l e R s m args below meth c A D cl nL cells slots Q ws pc lv (.int x :: rest) :=
  fun H locs ls hP hD hS hl => lv_istore_n C.1 C.2.1 hdg hi hl hn hv (fun ls' hl' => kk H locs ls' hP hD hS hl')
theorem jr_istore (C : jr_C p s m args c cc nL own Ts D cl tys A) {i : Nat} {x : Int32} {lv' : List (Nat × Value)} (hdg : decode cc pc = .ok (.istore i, 2)) (hn : i < nL) (hv : (i, Value.int x) :: lv.filter (fun q => !(q.1 == i) && !(q.1 + 1 == i && q.2.category == 2)) = lv') (kk : jr_J p l e R s m args below meth c A D cl nL cells slots Q ws (pc + 2) lv' rest) : jr_J p l e R s m args below meth c A D cl nL cells slots Q ws pc lv (.int x :: rest) :=
  fun H locs ls hP hD hS hl => lv_istore C.1 C.2.1 hdg hl hn hv (fun ls' hl' => kk H locs ls' hP hD hS hl')
theorem jr_lload_n (C : jr_C p s m args c cc nL own Ts D cl tys A) {k : Fin 4} {i q : Nat} {x : Int64} (hdg : decode cc pc = .ok (.lload_n k, 1)) (hi : (k : Nat) = i) (hq : lv[q]? = some (i, .long x)) (kk : jr_J p l e R s m args below meth c A D cl nL cells slots Q ws (pc + 1) lv (.long x :: rest)) : jr_J p l e R s m args below meth c A D cl nL cells slots Q ws pc lv rest :=
  fun H locs ls hP hD hS hl => lv_lload_n C.1 C.2.1 hdg hi (lv_at hl q hq) (kk H locs ls hP hD hS hl)
theorem jr_lload (C : jr_C p s m args c cc nL own Ts D cl tys A) {i q : Nat} {x : Int64} (hdg : decode cc pc = .ok (.lload i, 2)) (hq : lv[q]? = some (i, .long x)) (kk : jr_J p l e R s m args below meth c A D cl nL cells slots Q ws (pc + 2) lv (.long x :: rest)) : jr_J p l e R s m args below meth c A D cl nL cells slots Q ws pc lv rest :=
  fun H locs ls hP hD hS hl => lv_lload C.1 C.2.1 hdg (lv_at hl q hq) (kk H locs ls hP hD hS hl)
theorem jr_lstore_n (C : jr_C p s m args c cc nL own Ts D cl tys A) {k : Fin 4} {i : Nat} {x : Int64} {lv' : List (Nat × Value)} (hdg : decode cc pc = .ok (.lstore_n k, 1)) (hi : (k : Nat) = i) (hn : i + 1 < nL) (hv : (i, Value.long x) :: lv.filter (fun q => !(q.1 == i) && (!(q.1 == i + 1) && !(q.1 + 1 == i && q.2.category == 2))) = lv') (kk : jr_J p l e R s m args below meth c A D cl nL cells slots Q ws (pc + 1) lv' rest) : jr_J p l e R s m args below meth c A D cl nL cells slots Q ws pc lv (.long x :: rest) :=
  fun H locs ls hP hD hS hl => lv_lstore_n C.1 C.2.1 hdg hi hl hn hv (fun ls' hl' => kk H locs ls' hP hD hS hl')
theorem jr_lstore (C : jr_C p s m args c cc nL own Ts D cl tys A) {i : Nat} {x : Int64} {lv' : List (Nat × Value)} (hdg : decode cc pc = .ok (.lstore i, 2)) (hn : i + 1 < nL) (hv : (i, Value.long x) :: lv.filter (fun q => !(q.1 == i) && (!(q.1 == i + 1) && !(q.1 + 1 == i && q.2.category == 2))) = lv') (kk : jr_J p l e R s m args below meth c A D cl nL cells slots Q ws (pc + 2) lv' rest) : jr_J p l e R s m args below meth c A D cl nL cells slots Q ws pc lv (.long x :: rest) :=
  fun H locs ls hP hD hS hl => lv_lstore C.1 C.2.1 hdg hl hn hv (fun ls' hl' => kk H locs ls' hP hD hS hl')
theorem jr_aload_n (C : jr_C p s m args c cc nL own Ts D cl tys A) {k : Fin 4} {i q : Nat} {x : Nat} (hdg : decode cc pc = .ok (.aload_n k, 1)) (hi : (k : Nat) = i) (hq : lv[q]? = some (i, .ref x)) (kk : jr_J p l e R s m args below meth c A D cl nL cells slots Q ws (pc + 1) lv (.ref x :: rest)) : jr_J p l e R s m args below meth c A D cl nL cells slots Q ws pc lv rest :=
  fun H locs ls hP hD hS hl => lv_aload_n C.1 C.2.1 hdg hi (lv_at hl q hq) (kk H locs ls hP hD hS hl)
theorem jr_aload (C : jr_C p s m args c cc nL own Ts D cl tys A) {i q : Nat} {x : Nat} (hdg : decode cc pc = .ok (.aload i, 2)) (hq : lv[q]? = some (i, .ref x)) (kk : jr_J p l e R s m args below meth c A D cl nL cells slots Q ws (pc + 2) lv (.ref x :: rest)) : jr_J p l e R s m args below meth c A D cl nL cells slots Q ws pc lv rest :=
  fun H locs ls hP hD hS hl => lv_aload C.1 C.2.1 hdg (lv_at hl q hq) (kk H locs ls hP hD hS hl)
theorem jr_astore_n (C : jr_C p s m args c cc nL own Ts D cl tys A) {k : Fin 4} {i : Nat} {x : Nat} {lv' : List (Nat × Value)} (hdg : decode cc pc = .ok (.astore_n k, 1)) (hi : (k : Nat) = i) (hn : i < nL) (hv : (i, Value.ref x) :: lv.filter (fun q => !(q.1 == i) && !(q.1 + 1 == i && q.2.category == 2)) = lv') (kk : jr_J p l e R s m args below meth c A D cl nL cells slots Q ws (pc + 1) lv' rest) : jr_J p l e R s m args below meth c A D cl nL cells slots Q ws pc lv (.ref x :: rest) :=
  fun H locs ls hP hD hS hl => lv_astore_n C.1 C.2.1 hdg hi hl hn hv (fun ls' hl' => kk H locs ls' hP hD hS hl')
theorem jr_astore (C : jr_C p s m args c cc nL own Ts D cl tys A) {i : Nat} {x : Nat} {lv' : List (Nat × Value)} (hdg : decode cc pc = .ok (.astore i, 2)) (hn : i < nL) (hv : (i, Value.ref x) :: lv.filter (fun q => !(q.1 == i) && !(q.1 + 1 == i && q.2.category == 2)) = lv') (kk : jr_J p l e R s m args below meth c A D cl nL cells slots Q ws (pc + 2) lv' rest) : jr_J p l e R s m args below meth c A D cl nL cells slots Q ws pc lv (.ref x :: rest) :=
  fun H locs ls hP hD hS hl => lv_astore C.1 C.2.1 hdg hl hn hv (fun ls' hl' => kk H locs ls' hP hD hS hl')
theorem jr_iinc (C : jr_C p s m args c cc nL own Ts D cl tys A) {i q : Nat} {n : Int} {x v : Int32} {lv' : List (Nat × Value)} (hdg : decode cc pc = .ok (.iinc i n, 3)) (hq : lv[q]? = some (i, .int x)) (hx : x + Int32.ofInt n = v) (hn : i < nL) (hv : (i, Value.int v) :: lv.filter (fun q => !(q.1 == i) && !(q.1 + 1 == i && q.2.category == 2)) = lv') (kk : jr_J p l e R s m args below meth c A D cl nL cells slots Q ws (pc + 3) lv' rest) : jr_J p l e R s m args below meth c A D cl nL cells slots Q ws pc lv rest :=
  fun H locs ls hP hD hS hl => lv_iinc C.1 C.2.1 hdg hl hq hx hn hv (fun ls' hl' => kk H locs ls' hP hD hS hl')
theorem jr_iadd (C : jr_C p s m args c cc nL own Ts D cl tys A) {x y : Int32} (hdg : decode cc pc = .ok (.iadd, 1))  (kk : jr_J p l e R s m args below meth c A D cl nL cells slots Q ws (pc + 1) lv (.int (x + y) :: rest)) : jr_J p l e R s m args below meth c A D cl nL cells slots Q ws pc lv (.int y :: .int x :: rest) :=
  fun H locs ls hP hD hS hl => lv_iadd C.1 C.2.1 hdg  (kk H locs ls hP hD hS hl)
theorem jr_isub (C : jr_C p s m args c cc nL own Ts D cl tys A) {x y : Int32} (hdg : decode cc pc = .ok (.isub, 1))  (kk : jr_J p l e R s m args below meth c A D cl nL cells slots Q ws (pc + 1) lv (.int (x - y) :: rest)) : jr_J p l e R s m args below meth c A D cl nL cells slots Q ws pc lv (.int y :: .int x :: rest) :=
  fun H locs ls hP hD hS hl => lv_isub C.1 C.2.1 hdg  (kk H locs ls hP hD hS hl)
theorem jr_imul (C : jr_C p s m args c cc nL own Ts D cl tys A) {x y : Int32} (hdg : decode cc pc = .ok (.imul, 1))  (kk : jr_J p l e R s m args below meth c A D cl nL cells slots Q ws (pc + 1) lv (.int (x * y) :: rest)) : jr_J p l e R s m args below meth c A D cl nL cells slots Q ws pc lv (.int y :: .int x :: rest) :=
  fun H locs ls hP hD hS hl => lv_imul C.1 C.2.1 hdg  (kk H locs ls hP hD hS hl)
theorem jr_iand (C : jr_C p s m args c cc nL own Ts D cl tys A) {x y : Int32} (hdg : decode cc pc = .ok (.iand, 1))  (kk : jr_J p l e R s m args below meth c A D cl nL cells slots Q ws (pc + 1) lv (.int (x &&& y) :: rest)) : jr_J p l e R s m args below meth c A D cl nL cells slots Q ws pc lv (.int y :: .int x :: rest) :=
  fun H locs ls hP hD hS hl => lv_iand C.1 C.2.1 hdg  (kk H locs ls hP hD hS hl)
theorem jr_ior (C : jr_C p s m args c cc nL own Ts D cl tys A) {x y : Int32} (hdg : decode cc pc = .ok (.ior, 1))  (kk : jr_J p l e R s m args below meth c A D cl nL cells slots Q ws (pc + 1) lv (.int (x ||| y) :: rest)) : jr_J p l e R s m args below meth c A D cl nL cells slots Q ws pc lv (.int y :: .int x :: rest) :=
  fun H locs ls hP hD hS hl => lv_ior C.1 C.2.1 hdg  (kk H locs ls hP hD hS hl)
theorem jr_ixor (C : jr_C p s m args c cc nL own Ts D cl tys A) {x y : Int32} (hdg : decode cc pc = .ok (.ixor, 1))  (kk : jr_J p l e R s m args below meth c A D cl nL cells slots Q ws (pc + 1) lv (.int (x ^^^ y) :: rest)) : jr_J p l e R s m args below meth c A D cl nL cells slots Q ws pc lv (.int y :: .int x :: rest) :=
  fun H locs ls hP hD hS hl => lv_ixor C.1 C.2.1 hdg  (kk H locs ls hP hD hS hl)
theorem jr_ishl (C : jr_C p s m args c cc nL own Ts D cl tys A) {x y : Int32} (hdg : decode cc pc = .ok (.ishl, 1))  (kk : jr_J p l e R s m args below meth c A D cl nL cells slots Q ws (pc + 1) lv (.int (x <<< (y &&& 31)) :: rest)) : jr_J p l e R s m args below meth c A D cl nL cells slots Q ws pc lv (.int y :: .int x :: rest) :=
  fun H locs ls hP hD hS hl => lv_ishl C.1 C.2.1 hdg  (kk H locs ls hP hD hS hl)
theorem jr_ishr (C : jr_C p s m args c cc nL own Ts D cl tys A) {x y : Int32} (hdg : decode cc pc = .ok (.ishr, 1))  (kk : jr_J p l e R s m args below meth c A D cl nL cells slots Q ws (pc + 1) lv (.int (x >>> (y &&& 31)) :: rest)) : jr_J p l e R s m args below meth c A D cl nL cells slots Q ws pc lv (.int y :: .int x :: rest) :=
  fun H locs ls hP hD hS hl => lv_ishr C.1 C.2.1 hdg  (kk H locs ls hP hD hS hl)
theorem jr_ladd (C : jr_C p s m args c cc nL own Ts D cl tys A) {x y : Int64} (hdg : decode cc pc = .ok (.ladd, 1))  (kk : jr_J p l e R s m args below meth c A D cl nL cells slots Q ws (pc + 1) lv (.long (x + y) :: rest)) : jr_J p l e R s m args below meth c A D cl nL cells slots Q ws pc lv (.long y :: .long x :: rest) :=
  fun H locs ls hP hD hS hl => lv_ladd C.1 C.2.1 hdg  (kk H locs ls hP hD hS hl)
theorem jr_lsub (C : jr_C p s m args c cc nL own Ts D cl tys A) {x y : Int64} (hdg : decode cc pc = .ok (.lsub, 1))  (kk : jr_J p l e R s m args below meth c A D cl nL cells slots Q ws (pc + 1) lv (.long (x - y) :: rest)) : jr_J p l e R s m args below meth c A D cl nL cells slots Q ws pc lv (.long y :: .long x :: rest) :=
  fun H locs ls hP hD hS hl => lv_lsub C.1 C.2.1 hdg  (kk H locs ls hP hD hS hl)
theorem jr_lmul (C : jr_C p s m args c cc nL own Ts D cl tys A) {x y : Int64} (hdg : decode cc pc = .ok (.lmul, 1))  (kk : jr_J p l e R s m args below meth c A D cl nL cells slots Q ws (pc + 1) lv (.long (x * y) :: rest)) : jr_J p l e R s m args below meth c A D cl nL cells slots Q ws pc lv (.long y :: .long x :: rest) :=
  fun H locs ls hP hD hS hl => lv_lmul C.1 C.2.1 hdg  (kk H locs ls hP hD hS hl)
theorem jr_idiv (C : jr_C p s m args c cc nL own Ts D cl tys A) {x y : Int32} (hdg : decode cc pc = .ok (.idiv, 1)) (hne : ¬ y = 0) (kk : jr_J p l e R s m args below meth c A D cl nL cells slots Q ws (pc + 1) lv (.int (x / y) :: rest)) : jr_J p l e R s m args below meth c A D cl nL cells slots Q ws pc lv (.int y :: .int x :: rest) :=
  fun H locs ls hP hD hS hl => lv_idiv C.1 C.2.1 hdg hne (kk H locs ls hP hD hS hl)
theorem jr_irem (C : jr_C p s m args c cc nL own Ts D cl tys A) {x y : Int32} (hdg : decode cc pc = .ok (.irem, 1)) (hne : ¬ y = 0) (kk : jr_J p l e R s m args below meth c A D cl nL cells slots Q ws (pc + 1) lv (.int (x - x / y * y) :: rest)) : jr_J p l e R s m args below meth c A D cl nL cells slots Q ws pc lv (.int y :: .int x :: rest) :=
  fun H locs ls hP hD hS hl => lv_irem C.1 C.2.1 hdg hne (kk H locs ls hP hD hS hl)
theorem jr_ldiv (C : jr_C p s m args c cc nL own Ts D cl tys A) {x y : Int64} (hdg : decode cc pc = .ok (.ldiv, 1)) (hne : ¬ y = 0) (kk : jr_J p l e R s m args below meth c A D cl nL cells slots Q ws (pc + 1) lv (.long (x / y) :: rest)) : jr_J p l e R s m args below meth c A D cl nL cells slots Q ws pc lv (.long y :: .long x :: rest) :=
  fun H locs ls hP hD hS hl => lv_ldiv C.1 C.2.1 hdg hne (kk H locs ls hP hD hS hl)
theorem jr_lrem (C : jr_C p s m args c cc nL own Ts D cl tys A) {x y : Int64} (hdg : decode cc pc = .ok (.lrem, 1)) (hne : ¬ y = 0) (kk : jr_J p l e R s m args below meth c A D cl nL cells slots Q ws (pc + 1) lv (.long (x - x / y * y) :: rest)) : jr_J p l e R s m args below meth c A D cl nL cells slots Q ws pc lv (.long y :: .long x :: rest) :=
  fun H locs ls hP hD hS hl => lv_lrem C.1 C.2.1 hdg hne (kk H locs ls hP hD hS hl)
theorem jr_ineg (C : jr_C p s m args c cc nL own Ts D cl tys A) {x : Int32} (hdg : decode cc pc = .ok (.ineg, 1))  (kk : jr_J p l e R s m args below meth c A D cl nL cells slots Q ws (pc + 1) lv (.int (-x) :: rest)) : jr_J p l e R s m args below meth c A D cl nL cells slots Q ws pc lv (.int x :: rest) :=
  fun H locs ls hP hD hS hl => lv_ineg C.1 C.2.1 hdg  (kk H locs ls hP hD hS hl)
theorem jr_lneg (C : jr_C p s m args c cc nL own Ts D cl tys A) {x : Int64} (hdg : decode cc pc = .ok (.lneg, 1))  (kk : jr_J p l e R s m args below meth c A D cl nL cells slots Q ws (pc + 1) lv (.long (-x) :: rest)) : jr_J p l e R s m args below meth c A D cl nL cells slots Q ws pc lv (.long x :: rest) :=
  fun H locs ls hP hD hS hl => lv_lneg C.1 C.2.1 hdg  (kk H locs ls hP hD hS hl)
theorem jr_lcmp (C : jr_C p s m args c cc nL own Ts D cl tys A) {x y : Int64} (hdg : decode cc pc = .ok (.lcmp, 1))  (kk : jr_J p l e R s m args below meth c A D cl nL cells slots Q ws (pc + 1) lv (.int (lg_cmp x y) :: rest)) : jr_J p l e R s m args below meth c A D cl nL cells slots Q ws pc lv (.long y :: .long x :: rest) :=
  fun H locs ls hP hD hS hl => W.lcmp C.1 C.2.1 hdg  (kk H locs ls hP hD hS hl)
theorem jr_i2l (C : jr_C p s m args c cc nL own Ts D cl tys A) {x : Int32} (hdg : decode cc pc = .ok (.i2l, 1))  (kk : jr_J p l e R s m args below meth c A D cl nL cells slots Q ws (pc + 1) lv (.long x.toInt64 :: rest)) : jr_J p l e R s m args below meth c A D cl nL cells slots Q ws pc lv (.int x :: rest) :=
  fun H locs ls hP hD hS hl => lv_i2l C.1 C.2.1 hdg rfl (kk H locs ls hP hD hS hl)
theorem jr_l2i (C : jr_C p s m args c cc nL own Ts D cl tys A) {x : Int64} (hdg : decode cc pc = .ok (.l2i, 1))  (kk : jr_J p l e R s m args below meth c A D cl nL cells slots Q ws (pc + 1) lv (.int x.toInt32 :: rest)) : jr_J p l e R s m args below meth c A D cl nL cells slots Q ws pc lv (.long x :: rest) :=
  fun H locs ls hP hD hS hl => lv_l2i C.1 C.2.1 hdg rfl (kk H locs ls hP hD hS hl)
theorem jr_dup (C : jr_C p s m args c cc nL own Ts D cl tys A) {va : Value} (hdg : decode cc pc = .ok (.dup, 1)) (hva : va.category = 1) (kk : jr_J p l e R s m args below meth c A D cl nL cells slots Q ws (pc + 1) lv (va :: va :: rest)) : jr_J p l e R s m args below meth c A D cl nL cells slots Q ws pc lv (va :: rest) :=
  fun H locs ls hP hD hS hl => lv_dup C.1 C.2.1 hdg hva (kk H locs ls hP hD hS hl)
theorem jr_pop (C : jr_C p s m args c cc nL own Ts D cl tys A) {va : Value} (hdg : decode cc pc = .ok (.pop, 1)) (hva : va.category = 1) (kk : jr_J p l e R s m args below meth c A D cl nL cells slots Q ws (pc + 1) lv rest) : jr_J p l e R s m args below meth c A D cl nL cells slots Q ws pc lv (va :: rest) :=
  fun H locs ls hP hD hS hl => lv_pop C.1 C.2.1 hdg hva (kk H locs ls hP hD hS hl)
theorem jr_dup_x1 (C : jr_C p s m args c cc nL own Ts D cl tys A) {va vb : Value} (hdg : decode cc pc = .ok (.dup_x1, 1)) (hva : va.category = 1) (hvb : vb.category = 1) (kk : jr_J p l e R s m args below meth c A D cl nL cells slots Q ws (pc + 1) lv (va :: vb :: va :: rest)) : jr_J p l e R s m args below meth c A D cl nL cells slots Q ws pc lv (va :: vb :: rest) :=
  fun H locs ls hP hD hS hl => lv_dup_x1 C.1 C.2.1 hdg hva hvb (kk H locs ls hP hD hS hl)
theorem jr_dup_x2 (C : jr_C p s m args c cc nL own Ts D cl tys A) {va vb vd : Value} (hdg : decode cc pc = .ok (.dup_x2, 1)) (hva : va.category = 1) (hvb : vb.category = 1) (hvd : vd.category = 1) (kk : jr_J p l e R s m args below meth c A D cl nL cells slots Q ws (pc + 1) lv (va :: vb :: vd :: va :: rest)) : jr_J p l e R s m args below meth c A D cl nL cells slots Q ws pc lv (va :: vb :: vd :: rest) :=
  fun H locs ls hP hD hS hl => lv_dup_x2 C.1 C.2.1 hdg hva hvb hvd (kk H locs ls hP hD hS hl)
theorem jr_dup2_11 (C : jr_C p s m args c cc nL own Ts D cl tys A) {va vb : Value} (hdg : decode cc pc = .ok (.dup2, 1)) (hva : va.category = 1) (hvb : vb.category = 1) (kk : jr_J p l e R s m args below meth c A D cl nL cells slots Q ws (pc + 1) lv (va :: vb :: va :: vb :: rest)) : jr_J p l e R s m args below meth c A D cl nL cells slots Q ws pc lv (va :: vb :: rest) :=
  fun H locs ls hP hD hS hl => lv_dup2_11 C.1 C.2.1 hdg hva hvb (kk H locs ls hP hD hS hl)
theorem jr_dup2_2 (C : jr_C p s m args c cc nL own Ts D cl tys A) {va : Value} (hdg : decode cc pc = .ok (.dup2, 1)) (hva : va.category = 2) (kk : jr_J p l e R s m args below meth c A D cl nL cells slots Q ws (pc + 1) lv (va :: va :: rest)) : jr_J p l e R s m args below meth c A D cl nL cells slots Q ws pc lv (va :: rest) :=
  fun H locs ls hP hD hS hl => lv_dup2_2 C.1 C.2.1 hdg hva (kk H locs ls hP hD hS hl)
theorem jr_if_eq (C : jr_C p s m args c cc nL own Ts D cl tys A) {x : Int32} {off : Int} {tgt : Nat} (hdg : decode cc pc = .ok (.ifCond .eq off, 3)) (ht : (pc : Int) + off = (tgt : Int)) (kt : x = 0 → jr_J p l e R s m args below meth c A D cl nL cells slots Q ws tgt lv rest) (kf : ¬ x = 0 → jr_J p l e R s m args below meth c A D cl nL cells slots Q ws (pc + 3) lv rest) : jr_J p l e R s m args below meth c A D cl nL cells slots Q ws pc lv (.int x :: rest) :=
  fun H locs ls hP hD hS hl => lv_if_eq C.1 C.2.1 hdg ht (fun z => kt z H locs ls hP hD hS hl) (fun z => kf z H locs ls hP hD hS hl)
theorem jr_icmp_eq (C : jr_C p s m args c cc nL own Ts D cl tys A) {x y : Int32} {off : Int} {tgt : Nat} (hdg : decode cc pc = .ok (.if_icmp .eq off, 3)) (ht : (pc : Int) + off = (tgt : Int)) (kt : x = y → jr_J p l e R s m args below meth c A D cl nL cells slots Q ws tgt lv rest) (kf : ¬ x = y → jr_J p l e R s m args below meth c A D cl nL cells slots Q ws (pc + 3) lv rest) : jr_J p l e R s m args below meth c A D cl nL cells slots Q ws pc lv (.int y :: .int x :: rest) :=
  fun H locs ls hP hD hS hl => lv_icmp_eq C.1 C.2.1 hdg ht (fun z => kt z H locs ls hP hD hS hl) (fun z => kf z H locs ls hP hD hS hl)
theorem jr_if_ne (C : jr_C p s m args c cc nL own Ts D cl tys A) {x : Int32} {off : Int} {tgt : Nat} (hdg : decode cc pc = .ok (.ifCond .ne off, 3)) (ht : (pc : Int) + off = (tgt : Int)) (kt : ¬ x = 0 → jr_J p l e R s m args below meth c A D cl nL cells slots Q ws tgt lv rest) (kf : x = 0 → jr_J p l e R s m args below meth c A D cl nL cells slots Q ws (pc + 3) lv rest) : jr_J p l e R s m args below meth c A D cl nL cells slots Q ws pc lv (.int x :: rest) :=
  fun H locs ls hP hD hS hl => lv_if_ne C.1 C.2.1 hdg ht (fun z => kt z H locs ls hP hD hS hl) (fun z => kf z H locs ls hP hD hS hl)
theorem jr_icmp_ne (C : jr_C p s m args c cc nL own Ts D cl tys A) {x y : Int32} {off : Int} {tgt : Nat} (hdg : decode cc pc = .ok (.if_icmp .ne off, 3)) (ht : (pc : Int) + off = (tgt : Int)) (kt : ¬ x = y → jr_J p l e R s m args below meth c A D cl nL cells slots Q ws tgt lv rest) (kf : x = y → jr_J p l e R s m args below meth c A D cl nL cells slots Q ws (pc + 3) lv rest) : jr_J p l e R s m args below meth c A D cl nL cells slots Q ws pc lv (.int y :: .int x :: rest) :=
  fun H locs ls hP hD hS hl => lv_icmp_ne C.1 C.2.1 hdg ht (fun z => kt z H locs ls hP hD hS hl) (fun z => kf z H locs ls hP hD hS hl)
theorem jr_if_lt (C : jr_C p s m args c cc nL own Ts D cl tys A) {x : Int32} {off : Int} {tgt : Nat} (hdg : decode cc pc = .ok (.ifCond .lt off, 3)) (ht : (pc : Int) + off = (tgt : Int)) (kt : x < 0 → jr_J p l e R s m args below meth c A D cl nL cells slots Q ws tgt lv rest) (kf : ¬ x < 0 → jr_J p l e R s m args below meth c A D cl nL cells slots Q ws (pc + 3) lv rest) : jr_J p l e R s m args below meth c A D cl nL cells slots Q ws pc lv (.int x :: rest) :=
  fun H locs ls hP hD hS hl => lv_if_lt C.1 C.2.1 hdg ht (fun z => kt z H locs ls hP hD hS hl) (fun z => kf z H locs ls hP hD hS hl)
theorem jr_icmp_lt (C : jr_C p s m args c cc nL own Ts D cl tys A) {x y : Int32} {off : Int} {tgt : Nat} (hdg : decode cc pc = .ok (.if_icmp .lt off, 3)) (ht : (pc : Int) + off = (tgt : Int)) (kt : x < y → jr_J p l e R s m args below meth c A D cl nL cells slots Q ws tgt lv rest) (kf : ¬ x < y → jr_J p l e R s m args below meth c A D cl nL cells slots Q ws (pc + 3) lv rest) : jr_J p l e R s m args below meth c A D cl nL cells slots Q ws pc lv (.int y :: .int x :: rest) :=
  fun H locs ls hP hD hS hl => lv_icmp_lt C.1 C.2.1 hdg ht (fun z => kt z H locs ls hP hD hS hl) (fun z => kf z H locs ls hP hD hS hl)
theorem jr_if_ge (C : jr_C p s m args c cc nL own Ts D cl tys A) {x : Int32} {off : Int} {tgt : Nat} (hdg : decode cc pc = .ok (.ifCond .ge off, 3)) (ht : (pc : Int) + off = (tgt : Int)) (kt : 0 ≤ x → jr_J p l e R s m args below meth c A D cl nL cells slots Q ws tgt lv rest) (kf : ¬ 0 ≤ x → jr_J p l e R s m args below meth c A D cl nL cells slots Q ws (pc + 3) lv rest) : jr_J p l e R s m args below meth c A D cl nL cells slots Q ws pc lv (.int x :: rest) :=
  fun H locs ls hP hD hS hl => lv_if_ge C.1 C.2.1 hdg ht (fun z => kt z H locs ls hP hD hS hl) (fun z => kf z H locs ls hP hD hS hl)
theorem jr_icmp_ge (C : jr_C p s m args c cc nL own Ts D cl tys A) {x y : Int32} {off : Int} {tgt : Nat} (hdg : decode cc pc = .ok (.if_icmp .ge off, 3)) (ht : (pc : Int) + off = (tgt : Int)) (kt : y ≤ x → jr_J p l e R s m args below meth c A D cl nL cells slots Q ws tgt lv rest) (kf : ¬ y ≤ x → jr_J p l e R s m args below meth c A D cl nL cells slots Q ws (pc + 3) lv rest) : jr_J p l e R s m args below meth c A D cl nL cells slots Q ws pc lv (.int y :: .int x :: rest) :=
  fun H locs ls hP hD hS hl => lv_icmp_ge C.1 C.2.1 hdg ht (fun z => kt z H locs ls hP hD hS hl) (fun z => kf z H locs ls hP hD hS hl)
theorem jr_if_gt (C : jr_C p s m args c cc nL own Ts D cl tys A) {x : Int32} {off : Int} {tgt : Nat} (hdg : decode cc pc = .ok (.ifCond .gt off, 3)) (ht : (pc : Int) + off = (tgt : Int)) (kt : 0 < x → jr_J p l e R s m args below meth c A D cl nL cells slots Q ws tgt lv rest) (kf : ¬ 0 < x → jr_J p l e R s m args below meth c A D cl nL cells slots Q ws (pc + 3) lv rest) : jr_J p l e R s m args below meth c A D cl nL cells slots Q ws pc lv (.int x :: rest) :=
  fun H locs ls hP hD hS hl => lv_if_gt C.1 C.2.1 hdg ht (fun z => kt z H locs ls hP hD hS hl) (fun z => kf z H locs ls hP hD hS hl)
theorem jr_icmp_gt (C : jr_C p s m args c cc nL own Ts D cl tys A) {x y : Int32} {off : Int} {tgt : Nat} (hdg : decode cc pc = .ok (.if_icmp .gt off, 3)) (ht : (pc : Int) + off = (tgt : Int)) (kt : y < x → jr_J p l e R s m args below meth c A D cl nL cells slots Q ws tgt lv rest) (kf : ¬ y < x → jr_J p l e R s m args below meth c A D cl nL cells slots Q ws (pc + 3) lv rest) : jr_J p l e R s m args below meth c A D cl nL cells slots Q ws pc lv (.int y :: .int x :: rest) :=
  fun H locs ls hP hD hS hl => lv_icmp_gt C.1 C.2.1 hdg ht (fun z => kt z H locs ls hP hD hS hl) (fun z => kf z H locs ls hP hD hS hl)
theorem jr_if_le (C : jr_C p s m args c cc nL own Ts D cl tys A) {x : Int32} {off : Int} {tgt : Nat} (hdg : decode cc pc = .ok (.ifCond .le off, 3)) (ht : (pc : Int) + off = (tgt : Int)) (kt : x ≤ 0 → jr_J p l e R s m args below meth c A D cl nL cells slots Q ws tgt lv rest) (kf : ¬ x ≤ 0 → jr_J p l e R s m args below meth c A D cl nL cells slots Q ws (pc + 3) lv rest) : jr_J p l e R s m args below meth c A D cl nL cells slots Q ws pc lv (.int x :: rest) :=
  fun H locs ls hP hD hS hl => lv_if_le C.1 C.2.1 hdg ht (fun z => kt z H locs ls hP hD hS hl) (fun z => kf z H locs ls hP hD hS hl)
theorem jr_icmp_le (C : jr_C p s m args c cc nL own Ts D cl tys A) {x y : Int32} {off : Int} {tgt : Nat} (hdg : decode cc pc = .ok (.if_icmp .le off, 3)) (ht : (pc : Int) + off = (tgt : Int)) (kt : x ≤ y → jr_J p l e R s m args below meth c A D cl nL cells slots Q ws tgt lv rest) (kf : ¬ x ≤ y → jr_J p l e R s m args below meth c A D cl nL cells slots Q ws (pc + 3) lv rest) : jr_J p l e R s m args below meth c A D cl nL cells slots Q ws pc lv (.int y :: .int x :: rest) :=
  fun H locs ls hP hD hS hl => lv_icmp_le C.1 C.2.1 hdg ht (fun z => kt z H locs ls hP hD hS hl) (fun z => kf z H locs ls hP hD hS hl)
theorem jr_goto (C : jr_C p s m args c cc nL own Ts D cl tys A) {off : Int} {tgt : Nat} (hdg : decode cc pc = .ok (.goto off, 3)) (ht : (pc : Int) + off = (tgt : Int)) (kk : jr_J p l e R s m args below meth c A D cl nL cells slots Q ws tgt lv rest) : jr_J p l e R s m args below meth c A D cl nL cells slots Q ws pc lv rest :=
  fun H locs ls hP hD hS hl => lv_goto C.1 C.2.1 hdg ht (kk H locs ls hP hD hS hl)
theorem jr_lv {lv' : List (Nat × Value)} (ks : List Nat) (hv : lv_pick lv ks = lv') (kk : jr_J p l e R s m args below meth c A D cl nL cells slots Q ws pc lv' rest) : jr_J p l e R s m args below meth c A D cl nL cells slots Q ws pc lv rest :=
  fun H locs ls hP hD hS hl => kk H locs ls hP hD hS (lv_sub hl ks hv)
theorem jr_ws {ws' : va_W} (hw : ws = ws') (kk : jr_J p l e R s m args below meth c A D cl nL cells slots Q ws' pc lv rest) : jr_J p l e R s m args below meth c A D cl nL cells slots Q ws pc lv rest := hw ▸ kk
theorem jr_getf (C : jr_C p s m args c cc nL own Ts D cl tys A) {ref Cn : String} {T : u_T} {N ci index a k q0 : Nat} {fs : List Value} {v : Value} (hdg : decode cc pc = .ok (.getfield index, 3)) (hin : ∀ w ∈ u_ws Cn T N, w ∈ Ts) (hc : cl[ci]? = some (Cn, T, N)) (hk : k < N) (hlink : Cond.fieldLink own index ref (T k).2.1 (T k).2.2.1 ∈ Ts) (href : (T k).1 = ref) (he : ws[q0]? = some (a, .inr (ci, fs))) (hv : fs[k]? = some v) (kk : jr_J p l e R s m args below meth c A D cl nL cells slots Q ws (pc + 3) lv (v :: rest)) : jr_J p l e R s m args below meth c A D cl nL cells slots Q ws pc lv (.ref a :: rest) :=
  fun H locs ls hP hD hS hl => va_get C.1 C.2.1 C.2.2.2.2.1 hin C.2.2.2.1 C.2.2.2.2.2.1 hP q0 he hc k hk (C.2.2.2.2.1 _ hlink) (fun _ h9 => href ▸ h9) hv hdg (kk H locs ls hP hD hS hl)
theorem jr_putf (C : jr_C p s m args c cc nL own Ts D cl tys A) {ref Cn : String} {T : u_T} {N ci index a k q0 : Nat} {fs : List Value} {v : Value} {ty : FieldType} (hdg : decode cc pc = .ok (.putfield index, 3)) (hin : ∀ w ∈ u_ws Cn T N, w ∈ Ts) (ty0 : Nat → FieldType) (hty : ∀ k, k < N → parseFieldDescriptor (T k).2.2.1 = some (ty0 k)) (hnm : ∀ a, a < N → ∀ b, b < N → a ≠ b → (T a).2.1 ≠ (T b).2.1) (hc : cl[ci]? = some (Cn, T, N)) (hk : k < N) (hlink : Cond.fieldLink own index ref (T k).2.1 (T k).2.2.1 ∈ Ts) (href : (T k).1 = ref) (hfin : (T k).2.2.2 = false) (hd : parseFieldDescriptor (T k).2.2.1 = some ty) (hn : narrow ty v = v) (hfit : fits ty v = true) (he : ws[q0]? = some (a, .inr (ci, fs))) (hl9 : k < fs.length) (kk : jr_J p l e R s m args below meth c A D cl nL cells slots Q (ws.set q0 (a, .inr (ci, fs.set k v))) (pc + 3) lv rest) : jr_J p l e R s m args below meth c A D cl nL cells slots Q ws pc lv (v :: .ref a :: rest) :=
  fun H locs ls hP hD hS hl => va_put C.1 C.2.1 C.2.2.2.2.1 hin ty0 hty hnm C.2.2.2.1 C.2.2.2.2.2.1 hP hD hS q0 he hc k hk (C.2.2.2.2.1 _ hlink) (fun _ h9 => href ▸ h9) hfin hd hn hfit hl9 hdg (fun H1 locs1 hP hD hS => kk H1 locs1 ls hP hD hS hl)
theorem jr_iald (C : jr_C p s m args c cc nL own Ts D cl tys A) {a q0 t0 n : Nat} {cA : ClassId} {f : Nat → Int32} {i : Int32} (hdg : decode cc pc = .ok (.iaload, 1)) (ha : ws[q0]? = some (a, .inl (cA, n, .inl f))) (ht : tys[t0]? = some (cA, .int)) (hi : vp_in i n) (kk : jr_J p l e R s m args below meth c A D cl nL cells slots Q ws (pc + 1) lv (.int (f i.toNatClampNeg) :: rest)) : jr_J p l e R s m args below meth c A D cl nL cells slots Q ws pc lv (.int i :: .ref a :: rest) :=
  fun H locs ls hP hD hS hl => va_iald C.1 C.2.1 C.2.2.2.2.2.1 hP q0 t0 ha ht hi hdg (kk H locs ls hP hD hS hl)
theorem jr_iast (C : jr_C p s m args c cc nL own Ts D cl tys A) {a q0 t0 n : Nat} {cA : ClassId} {f : Nat → Int32} {i x : Int32} (hdg : decode cc pc = .ok (.iastore, 1)) (ha : ws[q0]? = some (a, .inl (cA, n, .inl f))) (ht : tys[t0]? = some (cA, .int)) (hi : vp_in i n) (kk : jr_J p l e R s m args below meth c A D cl nL cells slots Q (ws.set q0 (a, .inl (cA, n, .inl (upd f i.toNatClampNeg x)))) (pc + 1) lv rest) : jr_J p l e R s m args below meth c A D cl nL cells slots Q ws pc lv (.int x :: .int i :: .ref a :: rest) :=
  fun H locs ls hP hD hS hl => va_iast C.1 C.2.1 C.2.2.2.2.2.1 hP hD hS q0 t0 ha ht hi hdg (fun H1 locs1 hP hD hS => kk H1 locs1 ls hP hD hS hl)
theorem jr_last (C : jr_C p s m args c cc nL own Ts D cl tys A) {a q0 t0 n : Nat} {cA : ClassId} {f : Nat → Int64} {i : Int32} {x : Int64} (hdg : decode cc pc = .ok (.lastore, 1)) (ha : ws[q0]? = some (a, .inl (cA, n, .inr (.inl f)))) (ht : tys[t0]? = some (cA, .long)) (hi : vp_in i n) (kk : jr_J p l e R s m args below meth c A D cl nL cells slots Q (ws.set q0 (a, .inl (cA, n, .inr (.inl (vp_updL f i.toNatClampNeg x))))) (pc + 1) lv rest) : jr_J p l e R s m args below meth c A D cl nL cells slots Q ws pc lv (.long x :: .int i :: .ref a :: rest) :=
  fun H locs ls hP hD hS hl => va_last C.1 C.2.1 C.2.2.2.2.2.1 hP hD hS q0 t0 ha ht hi hdg (fun H1 locs1 hP hD hS => kk H1 locs1 ls hP hD hS hl)
theorem jr_lald (C : jr_C p s m args c cc nL own Ts D cl tys A) {a q0 t0 n : Nat} {cA : ClassId} {f : Nat → Int64} {i : Int32} (hdg : decode cc pc = .ok (.laload, 1)) (ha : ws[q0]? = some (a, .inl (cA, n, .inr (.inl f)))) (ht : tys[t0]? = some (cA, .long)) (hi : vp_in i n) (kk : jr_J p l e R s m args below meth c A D cl nL cells slots Q ws (pc + 1) lv (.long (f i.toNatClampNeg) :: rest)) : jr_J p l e R s m args below meth c A D cl nL cells slots Q ws pc lv (.int i :: .ref a :: rest) :=
  fun H locs ls hP hD hS hl => va_lald C.1 C.2.1 C.2.2.2.2.2.1 hP q0 t0 ha ht hi hdg (kk H locs ls hP hD hS hl)
theorem jr_aldo (C : jr_C p s m args c cc nL own Ts D cl tys A) {a q0 t0 n b : Nat} {cA : ClassId} {Cn : String} {f : Nat → Option Nat} {i : Int32} (hdg : decode cc pc = .ok (.aaload, 1)) (ha : ws[q0]? = some (a, .inl (cA, n, .inr (.inr (.inr (.inr f)))))) (ht : tys[t0]? = some (cA, .object Cn)) (hi : vp_in i n) (hf : f i.toNatClampNeg = some b) (kk : jr_J p l e R s m args below meth c A D cl nL cells slots Q ws (pc + 1) lv (.ref b :: rest)) : jr_J p l e R s m args below meth c A D cl nL cells slots Q ws pc lv (.int i :: .ref a :: rest) :=
  fun H locs ls hP hD hS hl => va_aldq C.1 C.2.1 C.2.2.2.2.2.1 hP q0 t0 ha ht hi hdg (by rw [hf]; exact kk H locs ls hP hD hS hl)
theorem jr_alda (C : jr_C p s m args c cc nL own Ts D cl tys A) {a q0 t0 n b : Nat} {cA : ClassId} {t : FieldType} {f : Nat → Option Nat} {i : Int32} (hdg : decode cc pc = .ok (.aaload, 1)) (ha : ws[q0]? = some (a, .inl (cA, n, .inr (.inr (.inr (.inr f)))))) (ht : tys[t0]? = some (cA, .array t)) (hi : vp_in i n) (hf : f i.toNatClampNeg = some b) (kk : jr_J p l e R s m args below meth c A D cl nL cells slots Q ws (pc + 1) lv (.ref b :: rest)) : jr_J p l e R s m args below meth c A D cl nL cells slots Q ws pc lv (.int i :: .ref a :: rest) :=
  fun H locs ls hP hD hS hl => W.aald (v := .ref b) (ty := .array t) C.1 C.2.1 (hP q0 _ ha) ((C.2.2.2.2.2.1.2 t0 _ ht).1 n (fun j => va_rf (f j))) rfl (fun q => by cases q) (by show ¬ (i < 0 ∨ (arrV _ _ _).slots.size ≤ _); rw [arrV_size]; exact hi) (by show (arrV _ _ _).slots[_]? = _; rw [arrV_read _ _ (Nat.not_le.mp fun q => hi (Or.inr q)), hf]; rfl) rfl rfl hdg (kk H locs ls hP hD hS hl)
theorem jr_alen (C : jr_C p s m args c cc nL own Ts D cl tys A) {a q0 t0 : Nat} {cA : ClassId} {x : vp_A} {ty : FieldType} {v : Int32} (hdg : decode cc pc = .ok (.arraylength, 1)) (ha : ws[q0]? = some (a, .inl (cA, x))) (ht : tys[t0]? = some (cA, ty)) (hv : Int32.ofNat x.1 = v) (kk : jr_J p l e R s m args below meth c A D cl nL cells slots Q ws (pc + 1) lv (.int v :: rest)) : jr_J p l e R s m args below meth c A D cl nL cells slots Q ws pc lv (.ref a :: rest) :=
  fun H locs ls hP hD hS hl => va_alen C.1 C.2.1 C.2.2.2.2.2.1 hP q0 t0 ha ht hv hdg (kk H locs ls hP hD hS hl)
end JR
/-- the start of a method: the heap's size, the world -/
def jr_Pre (D : va_G) (cl : List vw_C) (tys : List (ClassId × FieldType)) (ws : va_W) (sz : Nat) (U : State) : Prop := U.heap.size = sz ∧ va_P D cl ws U.heap ∧ va_K D cl tys U ∧ va_D (fun _ => True) ws ∧ jN U
/-- its end -/
def jr_B {S : Type} (D : va_G) (cl : List vw_C) (tys : List (ClassId × FieldType)) (wf : S → va_W) (A : Nat → Prop) (u : S) (t : State) : Prop := va_P D cl (wf u) t.heap ∧ va_K D cl tys t ∧ va_D A (wf u)
/-- what a throw needs of the machine's own statics -/
def jr_Z (A : Nat → Prop) (U : State) (H : Heap) : Prop := vx_Zq Bundle.tN "UNASSIGNED_STACK" Bundle.steD A U H ∧ vx_Zq Bundle.tN "SUPPRESSED_SENTINEL" Bundle.listD A U H
def jr_PreX (D : va_G) (cl : List vw_C) (tys : List (ClassId × FieldType)) (ws : va_W) (ss : List (String × Nat × String × Nat)) (sz : Nat) (U : State) : Prop := jr_Pre D cl tys ws sz U ∧ jr_Z (va_A ws sz) U U.heap ∧ ∀ q ∈ ss, vk_R q.1 q.2.1 q.2.2.1 q.2.2.2 U
def jr_X {S : Type} (D : va_G) (cl : List vw_C) (tys : List (ClassId × FieldType)) (wf : S → va_W) (A : Nat → Prop) (xp : String → S → Prop) : String → State → State → Prop := vx_X (fun _ : S => True) (fun E u t => xp E u ∧ jr_B D cl tys wf A u t) A
theorem jr_blind {D : va_G} {cl : List vw_C} {tys : List (ClassId × FieldType)} {ws : va_W} {sz : Nat} {av : List Value} : FrameBlind (va_Pc av (jr_Pre D cl tys ws sz)) :=
  fun a U g mk q => by
    obtain ⟨q0, q1, qP, qK, qD, qN⟩ := q
    exact ⟨q0, q1, qP, va_K.moved (u := U) (U := U.calling g mk a) (Vm.Alike.refl U.vm) qK, qD, jN.same (u := U) rfl qN⟩
theorem jr_blindX {D : va_G} {cl : List vw_C} {tys : List (ClassId × FieldType)} {ws : va_W} {ss : List (String × Nat × String × Nat)} {sz : Nat} {av : List Value} : FrameBlind (va_Pc av (jr_PreX D cl tys ws ss sz)) :=
  fun a U g mk q => by
    obtain ⟨q0, ⟨q1, qP, qK, qD, qN⟩, ⟨z1, z2⟩, z3⟩ := q
    exact ⟨q0, ⟨q1, qP, va_K.moved (u := U) (U := U.calling g mk a) (Vm.Alike.refl U.vm) qK, qD, jN.same (u := U) rfl qN⟩, ⟨vx_Zq.moved (u := U) (U := U.calling g mk a) (Vm.Alike.refl U.vm) z1, vx_Zq.moved (u := U) (U := U.calling g mk a) (Vm.Alike.refl U.vm) z2⟩, fun x hx => vk_R.same (u := U) rfl (z3 x hx)⟩
theorem jr_free {A : Nat → Prop} {ws : va_W} {H0 H : Heap} {locs : List Loc} (hD : va_D A ws) (hS : va_S A H0 H locs) (hA : ∀ q, H0.size ≤ q → A q) : ∀ q, va_A ws H.size q → A q := by
  intro q hq
  rcases hq with ⟨k, e, hk⟩ | h
  · exact hD.2 k (q, e) hk
  · exact hA q (Nat.le_trans hS.1 h)
theorem jr_Z.at {A B : Nat → Prop} {s U : State} {H : Heap} {locs : List Loc} (h : jr_Z A s s.heap) (hS : va_S A s.heap H locs) (hAB : ∀ q, B q → A q) (hU : U.heap = H) (hvm : s.vm.Alike U.vm) : jr_Z B U U.heap := by
  rw [hU]
  exact ⟨vx_Zq.moved hvm ((h.1.kept hS.2.1).narrow hAB), vx_Zq.moved hvm ((h.2.kept hS.2.1).narrow hAB)⟩
/-- the contract of a method that returns (i): from the world ws, whatever lies around it -/
def jr_Mi {S : Type} (l : Launch) (y : MethodName) (wy : List Cond) (rm : Room) (av : List Value) (D : va_G) (cl : List vw_C) (tys : List (ClassId × FieldType)) (ws : va_W) (wf : S → va_W) (post : Int32 → S → Prop) : Prop :=
  ∀ sz : Nat, Met l y wy rm (va_Pc av (jr_Pre D cl tys ws sz)) (va_Qi post (jr_B D cl tys wf (va_A ws sz)) (va_A ws sz)) 0 0 (va_A ws sz)
/-- .. or throws -/
def jr_Ti {S : Type} (l : Launch) (y : MethodName) (wy : List Cond) (rm : Room) (av : List Value) (D : va_G) (cl : List vw_C) (tys : List (ClassId × FieldType)) (ws : va_W) (ss : List (String × Nat × String × Nat)) (wf : S → va_W) (post : Int32 → S → Prop) (xp : String → S → Prop) (mc ms : Nat) : Prop :=
  ∀ sz : Nat, vx_Met l y wy rm (va_Pc av (jr_PreX D cl tys ws ss sz)) (va_Qi post (jr_B D cl tys wf (va_A ws sz)) (va_A ws sz)) (jr_X D cl tys wf (va_A ws sz) xp) mc ms (va_A ws sz)
/-- the contract of a method that returns (l): from the world ws, whatever lies around it -/
def jr_Ml {S : Type} (l : Launch) (y : MethodName) (wy : List Cond) (rm : Room) (av : List Value) (D : va_G) (cl : List vw_C) (tys : List (ClassId × FieldType)) (ws : va_W) (wf : S → va_W) (post : Int64 → S → Prop) : Prop :=
  ∀ sz : Nat, Met l y wy rm (va_Pc av (jr_Pre D cl tys ws sz)) (va_Ql post (jr_B D cl tys wf (va_A ws sz)) (va_A ws sz)) 0 0 (va_A ws sz)
/-- .. or throws -/
def jr_Tl {S : Type} (l : Launch) (y : MethodName) (wy : List Cond) (rm : Room) (av : List Value) (D : va_G) (cl : List vw_C) (tys : List (ClassId × FieldType)) (ws : va_W) (ss : List (String × Nat × String × Nat)) (wf : S → va_W) (post : Int64 → S → Prop) (xp : String → S → Prop) (mc ms : Nat) : Prop :=
  ∀ sz : Nat, vx_Met l y wy rm (va_Pc av (jr_PreX D cl tys ws ss sz)) (va_Ql post (jr_B D cl tys wf (va_A ws sz)) (va_A ws sz)) (jr_X D cl tys wf (va_A ws sz) xp) mc ms (va_A ws sz)
/-- the contract of a method that returns (v): from the world ws, whatever lies around it -/
def jr_Mv {S : Type} (l : Launch) (y : MethodName) (wy : List Cond) (rm : Room) (av : List Value) (D : va_G) (cl : List vw_C) (tys : List (ClassId × FieldType)) (ws : va_W) (wf : S → va_W) (post : S → Prop) : Prop :=
  ∀ sz : Nat, Met l y wy rm (va_Pc av (jr_Pre D cl tys ws sz)) (va_Qv post (jr_B D cl tys wf (va_A ws sz)) (va_A ws sz)) 0 0 (va_A ws sz)
/-- .. or throws -/
def jr_Tv {S : Type} (l : Launch) (y : MethodName) (wy : List Cond) (rm : Room) (av : List Value) (D : va_G) (cl : List vw_C) (tys : List (ClassId × FieldType)) (ws : va_W) (ss : List (String × Nat × String × Nat)) (wf : S → va_W) (post : S → Prop) (xp : String → S → Prop) (mc ms : Nat) : Prop :=
  ∀ sz : Nat, vx_Met l y wy rm (va_Pc av (jr_PreX D cl tys ws ss sz)) (va_Qv post (jr_B D cl tys wf (va_A ws sz)) (va_A ws sz)) (jr_X D cl tys wf (va_A ws sz) xp) mc ms (va_A ws sz)
section JR2
variable {p : Program} {l : Launch} {e : Env} {R : Room} {s : State} {m : MethodId} {args : Array Value} {below : List Frame} {meth : Method} {c : Code} {A : Nat → Prop} {D : va_G} {cl : List vw_C} {nL cells slots : Nat} {Q : State → Prop} {ws : va_W} {pc : Nat} {lv : List (Nat × Value)} {rest : List Value}
variable {cc : ByteArray} {own : String} {Ts : List Cond} {tys : List (ClassId × FieldType)} {S : Type} {wf : S → va_W} {xp xp' : String → S → Prop} {ss ss' : List (String × Nat × String × Nat)} {mc ms MC MS : Nat}
theorem jr_reti (C : jr_C p s m args c cc nL own Ts D cl tys A) {post : Int32 → S → Prop} {u : S} {v : Int32} (hr : meth.sig.returnType = some .int) (hlocks : meth.locks = false) (hdg : decode cc pc = .ok (.ireturn, 1)) (hp : post v u) (hw : ws = wf u) : jr_J p l e R s m args below meth c A D cl nL cells slots (MQ below (va_Qi post (jr_B D cl tys wf A) A) args s cells slots A) ws pc lv [.int v] := by
  subst hw
  intro H locs ls hP hD hS hl
  exact W.iret C.1 C.2.1 hr (fun t ht hW => ⟨⟨v, u, rfl, hp, by rw [ht]; exact hP, va_K.moved hW.alike C.2.2.2.2.2.1, hD⟩, hS.F ht⟩) hS.2.2 hdg hlocks
theorem jr_retXi (C : jr_C p s m args c cc nL own Ts D cl tys A) {post : Int32 → S → Prop} {u : S} {v : Int32} (hr : meth.sig.returnType = some .int) (hlocks : meth.locks = false) (hdg : decode cc pc = .ok (.ireturn, 1)) (hc : cells ≤ MC) (hs : slots ≤ MS) (hp : post v u) (hw : ws = wf u) : jr_J p l e R s m args below meth c A D cl nL cells slots (vx_MQ below (va_Qi post (jr_B D cl tys wf A) A) (jr_X D cl tys wf A xp) args s MC MS A) ws pc lv [.int v] := by
  subst hw
  intro H locs ls hP hD hS hl
  refine W.widen (k := MC) (n := MS) hc hs ?_
  exact vx_ret (W.iret C.1 C.2.1 hr (fun t ht hW => ⟨⟨v, u, rfl, hp, by rw [ht]; exact hP, va_K.moved hW.alike C.2.2.2.2.2.1, hD⟩, hS.F ht⟩) hS.2.2 hdg hlocks)
theorem jr_retz (C : jr_C p s m args c cc nL own Ts D cl tys A) {post : Int32 → S → Prop} {u : S} {v : Int32} {ty : FieldType} (hr : meth.sig.returnType = some ty) (hn : narrow ty (.int v) = .int v) (hlocks : meth.locks = false) (hdg : decode cc pc = .ok (.ireturn, 1)) (hp : post v u) (hw : ws = wf u) : jr_J p l e R s m args below meth c A D cl nL cells slots (MQ below (va_Qi post (jr_B D cl tys wf A) A) args s cells slots A) ws pc lv [.int v] := by
  subst hw
  intro H locs ls hP hD hS hl
  exact W.zret C.1 C.2.1 hr hn (fun t ht hW => ⟨⟨v, u, rfl, hp, by rw [ht]; exact hP, va_K.moved hW.alike C.2.2.2.2.2.1, hD⟩, hS.F ht⟩) hS.2.2 hdg hlocks
theorem jr_retXz (C : jr_C p s m args c cc nL own Ts D cl tys A) {post : Int32 → S → Prop} {u : S} {v : Int32} {ty : FieldType} (hr : meth.sig.returnType = some ty) (hn : narrow ty (.int v) = .int v) (hlocks : meth.locks = false) (hdg : decode cc pc = .ok (.ireturn, 1)) (hc : cells ≤ MC) (hs : slots ≤ MS) (hp : post v u) (hw : ws = wf u) : jr_J p l e R s m args below meth c A D cl nL cells slots (vx_MQ below (va_Qi post (jr_B D cl tys wf A) A) (jr_X D cl tys wf A xp) args s MC MS A) ws pc lv [.int v] := by
  subst hw
  intro H locs ls hP hD hS hl
  refine W.widen (k := MC) (n := MS) hc hs ?_
  exact vx_ret (W.zret C.1 C.2.1 hr hn (fun t ht hW => ⟨⟨v, u, rfl, hp, by rw [ht]; exact hP, va_K.moved hW.alike C.2.2.2.2.2.1, hD⟩, hS.F ht⟩) hS.2.2 hdg hlocks)
theorem jr_ofi {y : MethodName} {wy wy' : List Cond} {rm : Room} {av : List Value} {post : Int32 → S → Prop} (hy : plainName y.cls = true) (hw : wy = Cond.code y cc nL (some .int) :: wy') (hav : (lg_sl av).length ≤ nL) (hlv : lv_args 0 av = lv)
    (body : ∀ (p : Program) (e : Env) (s : State) (m : MethodId) (args : Array Value) (below : List Frame) (meth : Method) (c : Code) (A : Nat → Prop), jr_C p s m args c cc nL y.cls wy D cl tys A → meth.sig.returnType = some .int → meth.locks = false → jr_J p l e (headSpec wy rm).room s m args below meth c A D cl nL 0 0 (MQ below (va_Qi post (jr_B D cl tys wf A) A) args s 0 0 A) ws 0 lv []) : jr_Mi l y wy rm av D cl tys ws wf post := by
  intro sz
  refine Met.ofW hy hw ?_
  intro p e s m args below meth c s₁ B hml hv
  obtain ⟨rfl, hsz, hP, hK, hD0, hN⟩ := hv
  subst hsz
  have hl := lv_entry av hav
  rw [hlv] at hl
  rw [lg_entry_eq]
  exact body p e s m _ below meth c (va_A ws s.heap.size) ⟨B.exec, B.bytes, hml, findClass_of_methodNamed B.named, atoms_spec (ws := wy) B.pre, hK, fun q h => Or.inr h, hN⟩ B.returns B.notSynchronized s.heap [] _ hP hD0.self va_S.rf hl
theorem jr_ofFi {y : MethodName} {wy wy' : List Cond} {rm : Room} {av : List Value} {post : Int32 → S → Prop} (hy : plainFor y = true) (hw : wy = Cond.code y cc nL (some .int) :: wy') (hav : (lg_sl av).length ≤ nL) (hlv : lv_args 0 av = lv)
    (body : ∀ (p : Program) (e : Env) (s : State) (m : MethodId) (args : Array Value) (below : List Frame) (meth : Method) (c : Code) (A : Nat → Prop), jr_C p s m args c cc nL y.cls wy D cl tys A → meth.sig.returnType = some .int → meth.locks = false → jr_J p l e (headSpec wy rm).room s m args below meth c A D cl nL 0 0 (MQ below (va_Qi post (jr_B D cl tys wf A) A) args s 0 0 A) ws 0 lv []) : jr_Mi l y wy rm av D cl tys ws wf post := by
  intro sz
  refine va_MetF hy hw ?_
  intro p e s m args below meth c s₁ B hml hv
  obtain ⟨rfl, hsz, hP, hK, hD0, hN⟩ := hv
  subst hsz
  have hl := lv_entry av hav
  rw [hlv] at hl
  rw [lg_entry_eq]
  exact body p e s m _ below meth c (va_A ws s.heap.size) ⟨B.exec, B.bytes, hml, findClass_of_methodNamed B.named, atoms_spec (ws := wy) B.pre, hK, fun q h => Or.inr h, hN⟩ B.returns B.notSynchronized s.heap [] _ hP hD0.self va_S.rf hl
theorem jr_ofXi {y : MethodName} {wy wy' : List Cond} {rm : Room} {av : List Value} {post : Int32 → S → Prop} (hy : plainName y.cls = true) (hw : wy = Cond.code y cc nL (some .int) :: wy') (hav : (lg_sl av).length ≤ nL) (hlv : lv_args 0 av = lv)
    (body : ∀ (p : Program) (e : Env) (s : State) (m : MethodId) (args : Array Value) (below : List Frame) (meth : Method) (c : Code) (A : Nat → Prop), jr_C p s m args c cc nL y.cls wy D cl tys A → meth.sig.returnType = some .int → meth.locks = false → (∀ x ∈ c.exceptionTable.toList, False) → jr_Z A s s.heap → (∀ q ∈ ss, vk_R q.1 q.2.1 q.2.2.1 q.2.2.2 s) → jr_J p l e (headSpec wy rm).room s m args below meth c A D cl nL 0 0 (vx_MQ below (va_Qi post (jr_B D cl tys wf A) A) (jr_X D cl tys wf A xp) args s mc ms A) ws 0 lv []) : jr_Ti l y wy rm av D cl tys ws ss wf post xp mc ms := by
  intro sz
  refine vx_ofW hy hw ?_
  intro p e s m args below meth c s₁ B hml hnt hv
  obtain ⟨rfl, ⟨hsz, hP, hK, hD0, hN⟩, hZ, hs9⟩ := hv
  subst hsz
  have hl := lv_entry av hav
  rw [hlv] at hl
  rw [lg_entry_eq]
  exact body p e s m _ below meth c (va_A ws s.heap.size) ⟨B.exec, B.bytes, hml, findClass_of_methodNamed B.named, atoms_spec (ws := wy) B.pre, hK, fun q h => Or.inr h, hN⟩ B.returns B.notSynchronized hnt hZ hs9 s.heap [] _ hP hD0.self va_S.rf hl
theorem jr_ofz {y : MethodName} {wy wy' : List Cond} {rm : Room} {av : List Value} {post : Int32 → S → Prop} (hy : plainName y.cls = true) (hw : wy = Cond.code y cc nL (some .boolean) :: wy') (hav : (lg_sl av).length ≤ nL) (hlv : lv_args 0 av = lv)
    (body : ∀ (p : Program) (e : Env) (s : State) (m : MethodId) (args : Array Value) (below : List Frame) (meth : Method) (c : Code) (A : Nat → Prop), jr_C p s m args c cc nL y.cls wy D cl tys A → meth.sig.returnType = some .boolean → meth.locks = false → jr_J p l e (headSpec wy rm).room s m args below meth c A D cl nL 0 0 (MQ below (va_Qi post (jr_B D cl tys wf A) A) args s 0 0 A) ws 0 lv []) : jr_Mi l y wy rm av D cl tys ws wf post := by
  intro sz
  refine Met.ofW hy hw ?_
  intro p e s m args below meth c s₁ B hml hv
  obtain ⟨rfl, hsz, hP, hK, hD0, hN⟩ := hv
  subst hsz
  have hl := lv_entry av hav
  rw [hlv] at hl
  rw [lg_entry_eq]
  exact body p e s m _ below meth c (va_A ws s.heap.size) ⟨B.exec, B.bytes, hml, findClass_of_methodNamed B.named, atoms_spec (ws := wy) B.pre, hK, fun q h => Or.inr h, hN⟩ B.returns B.notSynchronized s.heap [] _ hP hD0.self va_S.rf hl
theorem jr_ofFz {y : MethodName} {wy wy' : List Cond} {rm : Room} {av : List Value} {post : Int32 → S → Prop} (hy : plainFor y = true) (hw : wy = Cond.code y cc nL (some .boolean) :: wy') (hav : (lg_sl av).length ≤ nL) (hlv : lv_args 0 av = lv)
    (body : ∀ (p : Program) (e : Env) (s : State) (m : MethodId) (args : Array Value) (below : List Frame) (meth : Method) (c : Code) (A : Nat → Prop), jr_C p s m args c cc nL y.cls wy D cl tys A → meth.sig.returnType = some .boolean → meth.locks = false → jr_J p l e (headSpec wy rm).room s m args below meth c A D cl nL 0 0 (MQ below (va_Qi post (jr_B D cl tys wf A) A) args s 0 0 A) ws 0 lv []) : jr_Mi l y wy rm av D cl tys ws wf post := by
  intro sz
  refine va_MetF hy hw ?_
  intro p e s m args below meth c s₁ B hml hv
  obtain ⟨rfl, hsz, hP, hK, hD0, hN⟩ := hv
  subst hsz
  have hl := lv_entry av hav
  rw [hlv] at hl
  rw [lg_entry_eq]
  exact body p e s m _ below meth c (va_A ws s.heap.size) ⟨B.exec, B.bytes, hml, findClass_of_methodNamed B.named, atoms_spec (ws := wy) B.pre, hK, fun q h => Or.inr h, hN⟩ B.returns B.notSynchronized s.heap [] _ hP hD0.self va_S.rf hl
theorem jr_ofXz {y : MethodName} {wy wy' : List Cond} {rm : Room} {av : List Value} {post : Int32 → S → Prop} (hy : plainName y.cls = true) (hw : wy = Cond.code y cc nL (some .boolean) :: wy') (hav : (lg_sl av).length ≤ nL) (hlv : lv_args 0 av = lv)
    (body : ∀ (p : Program) (e : Env) (s : State) (m : MethodId) (args : Array Value) (below : List Frame) (meth : Method) (c : Code) (A : Nat → Prop), jr_C p s m args c cc nL y.cls wy D cl tys A → meth.sig.returnType = some .boolean → meth.locks = false → (∀ x ∈ c.exceptionTable.toList, False) → jr_Z A s s.heap → (∀ q ∈ ss, vk_R q.1 q.2.1 q.2.2.1 q.2.2.2 s) → jr_J p l e (headSpec wy rm).room s m args below meth c A D cl nL 0 0 (vx_MQ below (va_Qi post (jr_B D cl tys wf A) A) (jr_X D cl tys wf A xp) args s mc ms A) ws 0 lv []) : jr_Ti l y wy rm av D cl tys ws ss wf post xp mc ms := by
  intro sz
  refine vx_ofW hy hw ?_
  intro p e s m args below meth c s₁ B hml hnt hv
  obtain ⟨rfl, ⟨hsz, hP, hK, hD0, hN⟩, hZ, hs9⟩ := hv
  subst hsz
  have hl := lv_entry av hav
  rw [hlv] at hl
  rw [lg_entry_eq]
  exact body p e s m _ below meth c (va_A ws s.heap.size) ⟨B.exec, B.bytes, hml, findClass_of_methodNamed B.named, atoms_spec (ws := wy) B.pre, hK, fun q h => Or.inr h, hN⟩ B.returns B.notSynchronized hnt hZ hs9 s.heap [] _ hP hD0.self va_S.rf hl
theorem jr_callVi (C : jr_C p s m args c cc nL own Ts D cl tys A) {post : Int32 → S → Prop} {y : MethodName} {wy : List Cond} {rm : Room} {bytes : ByteArray} {maxL index n : Nat} {ret : Option FieldType} {As st0 : List Value} {Cn : String} {T : u_T} {N ci q0 b : Nat} {fs : List Value} (hM : jr_Mi l y wy rm (.ref b :: As) D cl tys ws wf post) (cw : CallW R s args own Cn index y bytes maxL ret wy rm 0 0 n) (hdg : decode cc pc = .ok (.invokevirtual index, 3)) (hc9 : cl[ci]? = some (Cn, T, N)) (he : ws[q0]? = some (b, .inr (ci, fs))) (hn : As.length = n) (hst : st0 = As.reverse ++ .ref b :: rest) (hro : (rest.map fun v => v.category).sum ≤ 8) (hcl : cells ≤ R.cells ∧ slots ≤ R.slots) (kk : ∀ (r : Int32) (u : S), post r u → jr_J p l e R s m args below meth c A D cl nL cells slots Q (wf u) (pc + 3) lv (.int r :: rest)) : jr_J p l e R s m args below meth c A D cl nL cells slots Q ws pc lv st0 := by
  intro H locs ls hP hD hS hl
  subst hst
  have hF : ∀ q, va_A ws H.size q → A q := jr_free hD hS C.2.2.2.2.2.2.1
  refine va_calli (va_runV (As := As) (rest := rest) ⟨C.1, C.2.1, C.2.2.1, C.2.2.2.1, C.2.2.2.2.1⟩ (hM H.size) cw ⟨jr_blind, va_recv C.2.2.2.2.2.1 hP hc9 he, fun U hU hW => ⟨rfl, by rw [hU], by rw [hU]; exact hP, va_K.moved hW.alike C.2.2.2.2.2.1, hD.weaken (fun _ _ _ _ => trivial), C.2.2.2.2.2.2.2.warm hW⟩⟩ rfl hn hl.1 rfl (lv_room hro) hdg hcl) hS (fun q _ h => hF q h) hF (fun r u t H1 locs1 ht hvm hw hB hz hk hS1 => ?_)
  obtain ⟨hP1, hK1, hD1⟩ := hB
  rw [ht] at hP1
  exact kk r u hw H1 locs1 ls hP1 (hD1.weaken fun _ _ _ h => hF _ h) hS1 hl
theorem jr_callXVii (C : jr_C p s m args c cc nL own Ts D cl tys A) {post : Int32 → S → Prop} {postq : Int32 → S → Prop} {y : MethodName} {wy : List Cond} {rm : Room} {bytes : ByteArray} {maxL index n : Nat} {ret : Option FieldType} {As st0 : List Value} {Cn : String} {T : u_T} {N ci q0 b : Nat} {fs : List Value} (hlocks : meth.locks = false) (hnt : ∀ x ∈ c.exceptionTable.toList, False) (hZ : jr_Z A s s.heap) (hss : ∀ q ∈ ss', vk_R q.1 q.2.1 q.2.2.1 q.2.2.2 s) (hM : jr_Ti l y wy rm (.ref b :: As) D cl tys ws ss' wf post xp' mc ms) (cw : CallW R s args own Cn index y bytes maxL ret wy rm mc ms n) (hdg : decode cc pc = .ok (.invokevirtual index, 3)) (hc9 : cl[ci]? = some (Cn, T, N)) (he : ws[q0]? = some (b, .inr (ci, fs))) (hn : As.length = n) (hst : st0 = As.reverse ++ .ref b :: rest) (hro : (rest.map fun v => v.category).sum ≤ 8) (hcl : cells + mc ≤ R.cells ∧ slots + ms ≤ R.slots) (hc : cells + mc ≤ MC) (hs : slots + ms ≤ MS) (kx : ∀ (E : String) (u : S), xp' E u → xp E u) (kk : ∀ (r : Int32) (u : S), post r u → jr_J p l e R s m args below meth c A D cl nL (cells + mc) (slots + ms) (vx_MQ below (va_Qi postq (jr_B D cl tys wf A) A) (jr_X D cl tys wf A xp) args s MC MS A) (wf u) (pc + 3) lv (.int r :: rest)) : jr_J p l e R s m args below meth c A D cl nL cells slots (vx_MQ below (va_Qi postq (jr_B D cl tys wf A) A) (jr_X D cl tys wf A xp) args s MC MS A) ws pc lv st0 := by
  intro H locs ls hP hD hS hl
  subst hst
  have hF : ∀ q, va_A ws H.size q → A q := jr_free hD hS C.2.2.2.2.2.2.1
  refine vx_calli (vx_runV (As := As) (rest := rest) ⟨C.1, C.2.1, C.2.2.1, C.2.2.2.1, C.2.2.2.2.1⟩ (hM H.size) cw ⟨jr_blindX, va_recv C.2.2.2.2.2.1 hP hc9 he, fun U hU hW => ⟨rfl, ⟨by rw [hU], by rw [hU]; exact hP, va_K.moved hW.alike C.2.2.2.2.2.1, hD.weaken (fun _ _ _ _ => trivial), C.2.2.2.2.2.2.2.warm hW⟩, hZ.at hS hF hU hW.alike, fun q hq => (hss q hq).warm hW⟩⟩ rfl hn hl.1 rfl (lv_room hro) hdg hcl) hS (fun q _ h => hF q h) hF (fun q _ h => hF q h) (fun E ce q9 u t H1 locs1 ht hvm _ hBX hz hk hS1 hce hcv hcl9 => ?_) (fun r u t H1 locs1 ht hvm hw hB hz hk hS1 => ?_)
  · obtain ⟨hxe, hP1, hK1, hD1⟩ := hBX
    rw [ht] at hP1
    exact vx_out (fun x hx => (hnt x hx).elim) hlocks hce hcv hcl9 (fun t' ht' hvm' => ⟨u, trivial, ⟨kx E u hxe, by rw [ht']; exact hP1, va_K.moved hvm' C.2.2.2.2.2.1, hD1.weaken fun _ _ _ h => hF _ h⟩, hS1.F ht'⟩) hS1.2.2 hc hs
  · obtain ⟨hP1, hK1, hD1⟩ := hB
    rw [ht] at hP1
    exact kk r u hw H1 locs1 ls hP1 (hD1.weaken fun _ _ _ h => hF _ h) hS1 hl
theorem jr_callXVil (C : jr_C p s m args c cc nL own Ts D cl tys A) {post : Int32 → S → Prop} {postq : Int64 → S → Prop} {y : MethodName} {wy : List Cond} {rm : Room} {bytes : ByteArray} {maxL index n : Nat} {ret : Option FieldType} {As st0 : List Value} {Cn : String} {T : u_T} {N ci q0 b : Nat} {fs : List Value} (hlocks : meth.locks = false) (hnt : ∀ x ∈ c.exceptionTable.toList, False) (hZ : jr_Z A s s.heap) (hss : ∀ q ∈ ss', vk_R q.1 q.2.1 q.2.2.1 q.2.2.2 s) (hM : jr_Ti l y wy rm (.ref b :: As) D cl tys ws ss' wf post xp' mc ms) (cw : CallW R s args own Cn index y bytes maxL ret wy rm mc ms n) (hdg : decode cc pc = .ok (.invokevirtual index, 3)) (hc9 : cl[ci]? = some (Cn, T, N)) (he : ws[q0]? = some (b, .inr (ci, fs))) (hn : As.length = n) (hst : st0 = As.reverse ++ .ref b :: rest) (hro : (rest.map fun v => v.category).sum ≤ 8) (hcl : cells + mc ≤ R.cells ∧ slots + ms ≤ R.slots) (hc : cells + mc ≤ MC) (hs : slots + ms ≤ MS) (kx : ∀ (E : String) (u : S), xp' E u → xp E u) (kk : ∀ (r : Int32) (u : S), post r u → jr_J p l e R s m args below meth c A D cl nL (cells + mc) (slots + ms) (vx_MQ below (va_Ql postq (jr_B D cl tys wf A) A) (jr_X D cl tys wf A xp) args s MC MS A) (wf u) (pc + 3) lv (.int r :: rest)) : jr_J p l e R s m args below meth c A D cl nL cells slots (vx_MQ below (va_Ql postq (jr_B D cl tys wf A) A) (jr_X D cl tys wf A xp) args s MC MS A) ws pc lv st0 := by
  intro H locs ls hP hD hS hl
  subst hst
  have hF : ∀ q, va_A ws H.size q → A q := jr_free hD hS C.2.2.2.2.2.2.1
  refine vx_calli (vx_runV (As := As) (rest := rest) ⟨C.1, C.2.1, C.2.2.1, C.2.2.2.1, C.2.2.2.2.1⟩ (hM H.size) cw ⟨jr_blindX, va_recv C.2.2.2.2.2.1 hP hc9 he, fun U hU hW => ⟨rfl, ⟨by rw [hU], by rw [hU]; exact hP, va_K.moved hW.alike C.2.2.2.2.2.1, hD.weaken (fun _ _ _ _ => trivial), C.2.2.2.2.2.2.2.warm hW⟩, hZ.at hS hF hU hW.alike, fun q hq => (hss q hq).warm hW⟩⟩ rfl hn hl.1 rfl (lv_room hro) hdg hcl) hS (fun q _ h => hF q h) hF (fun q _ h => hF q h) (fun E ce q9 u t H1 locs1 ht hvm _ hBX hz hk hS1 hce hcv hcl9 => ?_) (fun r u t H1 locs1 ht hvm hw hB hz hk hS1 => ?_)
  · obtain ⟨hxe, hP1, hK1, hD1⟩ := hBX
    rw [ht] at hP1
    exact vx_out (fun x hx => (hnt x hx).elim) hlocks hce hcv hcl9 (fun t' ht' hvm' => ⟨u, trivial, ⟨kx E u hxe, by rw [ht']; exact hP1, va_K.moved hvm' C.2.2.2.2.2.1, hD1.weaken fun _ _ _ h => hF _ h⟩, hS1.F ht'⟩) hS1.2.2 hc hs
  · obtain ⟨hP1, hK1, hD1⟩ := hB
    rw [ht] at hP1
    exact kk r u hw H1 locs1 ls hP1 (hD1.weaken fun _ _ _ h => hF _ h) hS1 hl
theorem jr_callXViv (C : jr_C p s m args c cc nL own Ts D cl tys A) {post : Int32 → S → Prop} {postq : S → Prop} {y : MethodName} {wy : List Cond} {rm : Room} {bytes : ByteArray} {maxL index n : Nat} {ret : Option FieldType} {As st0 : List Value} {Cn : String} {T : u_T} {N ci q0 b : Nat} {fs : List Value} (hlocks : meth.locks = false) (hnt : ∀ x ∈ c.exceptionTable.toList, False) (hZ : jr_Z A s s.heap) (hss : ∀ q ∈ ss', vk_R q.1 q.2.1 q.2.2.1 q.2.2.2 s) (hM : jr_Ti l y wy rm (.ref b :: As) D cl tys ws ss' wf post xp' mc ms) (cw : CallW R s args own Cn index y bytes maxL ret wy rm mc ms n) (hdg : decode cc pc = .ok (.invokevirtual index, 3)) (hc9 : cl[ci]? = some (Cn, T, N)) (he : ws[q0]? = some (b, .inr (ci, fs))) (hn : As.length = n) (hst : st0 = As.reverse ++ .ref b :: rest) (hro : (rest.map fun v => v.category).sum ≤ 8) (hcl : cells + mc ≤ R.cells ∧ slots + ms ≤ R.slots) (hc : cells + mc ≤ MC) (hs : slots + ms ≤ MS) (kx : ∀ (E : String) (u : S), xp' E u → xp E u) (kk : ∀ (r : Int32) (u : S), post r u → jr_J p l e R s m args below meth c A D cl nL (cells + mc) (slots + ms) (vx_MQ below (va_Qv postq (jr_B D cl tys wf A) A) (jr_X D cl tys wf A xp) args s MC MS A) (wf u) (pc + 3) lv (.int r :: rest)) : jr_J p l e R s m args below meth c A D cl nL cells slots (vx_MQ below (va_Qv postq (jr_B D cl tys wf A) A) (jr_X D cl tys wf A xp) args s MC MS A) ws pc lv st0 := by
  intro H locs ls hP hD hS hl
  subst hst
  have hF : ∀ q, va_A ws H.size q → A q := jr_free hD hS C.2.2.2.2.2.2.1
  refine vx_calli (vx_runV (As := As) (rest := rest) ⟨C.1, C.2.1, C.2.2.1, C.2.2.2.1, C.2.2.2.2.1⟩ (hM H.size) cw ⟨jr_blindX, va_recv C.2.2.2.2.2.1 hP hc9 he, fun U hU hW => ⟨rfl, ⟨by rw [hU], by rw [hU]; exact hP, va_K.moved hW.alike C.2.2.2.2.2.1, hD.weaken (fun _ _ _ _ => trivial), C.2.2.2.2.2.2.2.warm hW⟩, hZ.at hS hF hU hW.alike, fun q hq => (hss q hq).warm hW⟩⟩ rfl hn hl.1 rfl (lv_room hro) hdg hcl) hS (fun q _ h => hF q h) hF (fun q _ h => hF q h) (fun E ce q9 u t H1 locs1 ht hvm _ hBX hz hk hS1 hce hcv hcl9 => ?_) (fun r u t H1 locs1 ht hvm hw hB hz hk hS1 => ?_)
  · obtain ⟨hxe, hP1, hK1, hD1⟩ := hBX
    rw [ht] at hP1
    exact vx_out (fun x hx => (hnt x hx).elim) hlocks hce hcv hcl9 (fun t' ht' hvm' => ⟨u, trivial, ⟨kx E u hxe, by rw [ht']; exact hP1, va_K.moved hvm' C.2.2.2.2.2.1, hD1.weaken fun _ _ _ h => hF _ h⟩, hS1.F ht'⟩) hS1.2.2 hc hs
  · obtain ⟨hP1, hK1, hD1⟩ := hB
    rw [ht] at hP1
    exact kk r u hw H1 locs1 ls hP1 (hD1.weaken fun _ _ _ h => hF _ h) hS1 hl
theorem jr_callSi (C : jr_C p s m args c cc nL own Ts D cl tys A) {post : Int32 → S → Prop} {y : MethodName} {wy : List Cond} {rm : Room} {bytes : ByteArray} {maxL index n : Nat} {ret : Option FieldType} {As st0 : List Value} (hM : jr_Mi l y wy rm As D cl tys ws wf post) (cw : CallB R s args own index y bytes maxL ret wy rm 0 0 n ∧ (Cond.static y).before args s = true) (hdg : decode cc pc = .ok (.invokestatic index, 3)) (hn : As.length = n) (hst : st0 = As.reverse ++ rest) (hro : (rest.map fun v => v.category).sum ≤ 8) (hcl : cells ≤ R.cells ∧ slots ≤ R.slots) (kk : ∀ (r : Int32) (u : S), post r u → jr_J p l e R s m args below meth c A D cl nL cells slots Q (wf u) (pc + 3) lv (.int r :: rest)) : jr_J p l e R s m args below meth c A D cl nL cells slots Q ws pc lv st0 := by
  intro H locs ls hP hD hS hl
  subst hst
  have hF : ∀ q, va_A ws H.size q → A q := jr_free hD hS C.2.2.2.2.2.2.1
  refine va_calli (va_runS (As := As) (rest := rest) ⟨C.1, C.2.1, C.2.2.1, C.2.2.2.1, C.2.2.2.2.1⟩ (hM H.size) cw ⟨jr_blind, fun U hU hW => ⟨rfl, by rw [hU], by rw [hU]; exact hP, va_K.moved hW.alike C.2.2.2.2.2.1, hD.weaken (fun _ _ _ _ => trivial), C.2.2.2.2.2.2.2.warm hW⟩⟩ rfl hn hl.1 rfl (lv_room hro) hdg hcl) hS (fun q _ h => hF q h) hF (fun r u t H1 locs1 ht hvm hw hB hz hk hS1 => ?_)
  obtain ⟨hP1, hK1, hD1⟩ := hB
  rw [ht] at hP1
  exact kk r u hw H1 locs1 ls hP1 (hD1.weaken fun _ _ _ h => hF _ h) hS1 hl
theorem jr_callXSii (C : jr_C p s m args c cc nL own Ts D cl tys A) {post : Int32 → S → Prop} {postq : Int32 → S → Prop} {y : MethodName} {wy : List Cond} {rm : Room} {bytes : ByteArray} {maxL index n : Nat} {ret : Option FieldType} {As st0 : List Value} (hlocks : meth.locks = false) (hnt : ∀ x ∈ c.exceptionTable.toList, False) (hZ : jr_Z A s s.heap) (hss : ∀ q ∈ ss', vk_R q.1 q.2.1 q.2.2.1 q.2.2.2 s) (hM : jr_Ti l y wy rm As D cl tys ws ss' wf post xp' mc ms) (cw : CallB R s args own index y bytes maxL ret wy rm mc ms n ∧ (Cond.static y).before args s = true) (hdg : decode cc pc = .ok (.invokestatic index, 3)) (hn : As.length = n) (hst : st0 = As.reverse ++ rest) (hro : (rest.map fun v => v.category).sum ≤ 8) (hcl : cells + mc ≤ R.cells ∧ slots + ms ≤ R.slots) (hc : cells + mc ≤ MC) (hs : slots + ms ≤ MS) (kx : ∀ (E : String) (u : S), xp' E u → xp E u) (kk : ∀ (r : Int32) (u : S), post r u → jr_J p l e R s m args below meth c A D cl nL (cells + mc) (slots + ms) (vx_MQ below (va_Qi postq (jr_B D cl tys wf A) A) (jr_X D cl tys wf A xp) args s MC MS A) (wf u) (pc + 3) lv (.int r :: rest)) : jr_J p l e R s m args below meth c A D cl nL cells slots (vx_MQ below (va_Qi postq (jr_B D cl tys wf A) A) (jr_X D cl tys wf A xp) args s MC MS A) ws pc lv st0 := by
  intro H locs ls hP hD hS hl
  subst hst
  have hF : ∀ q, va_A ws H.size q → A q := jr_free hD hS C.2.2.2.2.2.2.1
  refine vx_calli (vx_runS (As := As) (rest := rest) ⟨C.1, C.2.1, C.2.2.1, C.2.2.2.1, C.2.2.2.2.1⟩ (hM H.size) cw ⟨jr_blindX, fun U hU hW => ⟨rfl, ⟨by rw [hU], by rw [hU]; exact hP, va_K.moved hW.alike C.2.2.2.2.2.1, hD.weaken (fun _ _ _ _ => trivial), C.2.2.2.2.2.2.2.warm hW⟩, hZ.at hS hF hU hW.alike, fun q hq => (hss q hq).warm hW⟩⟩ rfl hn hl.1 rfl (lv_room hro) hdg hcl) hS (fun q _ h => hF q h) hF (fun q _ h => hF q h) (fun E ce q9 u t H1 locs1 ht hvm _ hBX hz hk hS1 hce hcv hcl9 => ?_) (fun r u t H1 locs1 ht hvm hw hB hz hk hS1 => ?_)
  · obtain ⟨hxe, hP1, hK1, hD1⟩ := hBX
    rw [ht] at hP1
    exact vx_out (fun x hx => (hnt x hx).elim) hlocks hce hcv hcl9 (fun t' ht' hvm' => ⟨u, trivial, ⟨kx E u hxe, by rw [ht']; exact hP1, va_K.moved hvm' C.2.2.2.2.2.1, hD1.weaken fun _ _ _ h => hF _ h⟩, hS1.F ht'⟩) hS1.2.2 hc hs
  · obtain ⟨hP1, hK1, hD1⟩ := hB
    rw [ht] at hP1
    exact kk r u hw H1 locs1 ls hP1 (hD1.weaken fun _ _ _ h => hF _ h) hS1 hl
theorem jr_callXSil (C : jr_C p s m args c cc nL own Ts D cl tys A) {post : Int32 → S → Prop} {postq : Int64 → S → Prop} {y : MethodName} {wy : List Cond} {rm : Room} {bytes : ByteArray} {maxL index n : Nat} {ret : Option FieldType} {As st0 : List Value} (hlocks : meth.locks = false) (hnt : ∀ x ∈ c.exceptionTable.toList, False) (hZ : jr_Z A s s.heap) (hss : ∀ q ∈ ss', vk_R q.1 q.2.1 q.2.2.1 q.2.2.2 s) (hM : jr_Ti l y wy rm As D cl tys ws ss' wf post xp' mc ms) (cw : CallB R s args own index y bytes maxL ret wy rm mc ms n ∧ (Cond.static y).before args s = true) (hdg : decode cc pc = .ok (.invokestatic index, 3)) (hn : As.length = n) (hst : st0 = As.reverse ++ rest) (hro : (rest.map fun v => v.category).sum ≤ 8) (hcl : cells + mc ≤ R.cells ∧ slots + ms ≤ R.slots) (hc : cells + mc ≤ MC) (hs : slots + ms ≤ MS) (kx : ∀ (E : String) (u : S), xp' E u → xp E u) (kk : ∀ (r : Int32) (u : S), post r u → jr_J p l e R s m args below meth c A D cl nL (cells + mc) (slots + ms) (vx_MQ below (va_Ql postq (jr_B D cl tys wf A) A) (jr_X D cl tys wf A xp) args s MC MS A) (wf u) (pc + 3) lv (.int r :: rest)) : jr_J p l e R s m args below meth c A D cl nL cells slots (vx_MQ below (va_Ql postq (jr_B D cl tys wf A) A) (jr_X D cl tys wf A xp) args s MC MS A) ws pc lv st0 := by
  intro H locs ls hP hD hS hl
  subst hst
  have hF : ∀ q, va_A ws H.size q → A q := jr_free hD hS C.2.2.2.2.2.2.1
  refine vx_calli (vx_runS (As := As) (rest := rest) ⟨C.1, C.2.1, C.2.2.1, C.2.2.2.1, C.2.2.2.2.1⟩ (hM H.size) cw ⟨jr_blindX, fun U hU hW => ⟨rfl, ⟨by rw [hU], by rw [hU]; exact hP, va_K.moved hW.alike C.2.2.2.2.2.1, hD.weaken (fun _ _ _ _ => trivial), C.2.2.2.2.2.2.2.warm hW⟩, hZ.at hS hF hU hW.alike, fun q hq => (hss q hq).warm hW⟩⟩ rfl hn hl.1 rfl (lv_room hro) hdg hcl) hS (fun q _ h => hF q h) hF (fun q _ h => hF q h) (fun E ce q9 u t H1 locs1 ht hvm _ hBX hz hk hS1 hce hcv hcl9 => ?_) (fun r u t H1 locs1 ht hvm hw hB hz hk hS1 => ?_)
  · obtain ⟨hxe, hP1, hK1, hD1⟩ := hBX
    rw [ht] at hP1
    exact vx_out (fun x hx => (hnt x hx).elim) hlocks hce hcv hcl9 (fun t' ht' hvm' => ⟨u, trivial, ⟨kx E u hxe, by rw [ht']; exact hP1, va_K.moved hvm' C.2.2.2.2.2.1, hD1.weaken fun _ _ _ h => hF _ h⟩, hS1.F ht'⟩) hS1.2.2 hc hs
  · obtain ⟨hP1, hK1, hD1⟩ := hB
    rw [ht] at hP1
    exact kk r u hw H1 locs1 ls hP1 (hD1.weaken fun _ _ _ h => hF _ h) hS1 hl
theorem jr_callXSiv (C : jr_C p s m args c cc nL own Ts D cl tys A) {post : Int32 → S → Prop} {postq : S → Prop} {y : MethodName} {wy : List Cond} {rm : Room} {bytes : ByteArray} {maxL index n : Nat} {ret : Option FieldType} {As st0 : List Value} (hlocks : meth.locks = false) (hnt : ∀ x ∈ c.exceptionTable.toList, False) (hZ : jr_Z A s s.heap) (hss : ∀ q ∈ ss', vk_R q.1 q.2.1 q.2.2.1 q.2.2.2 s) (hM : jr_Ti l y wy rm As D cl tys ws ss' wf post xp' mc ms) (cw : CallB R s args own index y bytes maxL ret wy rm mc ms n ∧ (Cond.static y).before args s = true) (hdg : decode cc pc = .ok (.invokestatic index, 3)) (hn : As.length = n) (hst : st0 = As.reverse ++ rest) (hro : (rest.map fun v => v.category).sum ≤ 8) (hcl : cells + mc ≤ R.cells ∧ slots + ms ≤ R.slots) (hc : cells + mc ≤ MC) (hs : slots + ms ≤ MS) (kx : ∀ (E : String) (u : S), xp' E u → xp E u) (kk : ∀ (r : Int32) (u : S), post r u → jr_J p l e R s m args below meth c A D cl nL (cells + mc) (slots + ms) (vx_MQ below (va_Qv postq (jr_B D cl tys wf A) A) (jr_X D cl tys wf A xp) args s MC MS A) (wf u) (pc + 3) lv (.int r :: rest)) : jr_J p l e R s m args below meth c A D cl nL cells slots (vx_MQ below (va_Qv postq (jr_B D cl tys wf A) A) (jr_X D cl tys wf A xp) args s MC MS A) ws pc lv st0 := by
  intro H locs ls hP hD hS hl
  subst hst
  have hF : ∀ q, va_A ws H.size q → A q := jr_free hD hS C.2.2.2.2.2.2.1
  refine vx_calli (vx_runS (As := As) (rest := rest) ⟨C.1, C.2.1, C.2.2.1, C.2.2.2.1, C.2.2.2.2.1⟩ (hM H.size) cw ⟨jr_blindX, fun U hU hW => ⟨rfl, ⟨by rw [hU], by rw [hU]; exact hP, va_K.moved hW.alike C.2.2.2.2.2.1, hD.weaken (fun _ _ _ _ => trivial), C.2.2.2.2.2.2.2.warm hW⟩, hZ.at hS hF hU hW.alike, fun q hq => (hss q hq).warm hW⟩⟩ rfl hn hl.1 rfl (lv_room hro) hdg hcl) hS (fun q _ h => hF q h) hF (fun q _ h => hF q h) (fun E ce q9 u t H1 locs1 ht hvm _ hBX hz hk hS1 hce hcv hcl9 => ?_) (fun r u t H1 locs1 ht hvm hw hB hz hk hS1 => ?_)
  · obtain ⟨hxe, hP1, hK1, hD1⟩ := hBX
    rw [ht] at hP1
    exact vx_out (fun x hx => (hnt x hx).elim) hlocks hce hcv hcl9 (fun t' ht' hvm' => ⟨u, trivial, ⟨kx E u hxe, by rw [ht']; exact hP1, va_K.moved hvm' C.2.2.2.2.2.1, hD1.weaken fun _ _ _ h => hF _ h⟩, hS1.F ht'⟩) hS1.2.2 hc hs
  · obtain ⟨hP1, hK1, hD1⟩ := hB
    rw [ht] at hP1
    exact kk r u hw H1 locs1 ls hP1 (hD1.weaken fun _ _ _ h => hF _ h) hS1 hl
theorem jr_callVNi (C : jr_C p s m args c cc nL own Ts D cl tys A) {post : Int32 → S → Prop} {y : MethodName} {wy : List Cond} {rm : Room} {bytes : ByteArray} {maxL index n : Nat} {ret : Option FieldType} {host : String} {As st0 : List Value} {Cn : String} {T : u_T} {N ci q0 b : Nat} {fs : List Value} (hM : jr_Mi l y wy rm (.ref b :: As) D cl tys ws wf post) (cw : va_CN R s args own index y host bytes maxL ret wy rm 0 0 n ∧ (Cond.instanceMethod y).before args s = true ∧ (Cond.selects Cn y y).before args s = true) (hdg : decode cc pc = .ok (.invokevirtual index, 3)) (hc9 : cl[ci]? = some (Cn, T, N)) (he : ws[q0]? = some (b, .inr (ci, fs))) (hn : As.length = n) (hst : st0 = As.reverse ++ .ref b :: rest) (hro : (rest.map fun v => v.category).sum ≤ 8) (hcl : cells ≤ R.cells ∧ slots ≤ R.slots) (kk : ∀ (r : Int32) (u : S), post r u → jr_J p l e R s m args below meth c A D cl nL cells slots Q (wf u) (pc + 3) lv (.int r :: rest)) : jr_J p l e R s m args below meth c A D cl nL cells slots Q ws pc lv st0 := by
  intro H locs ls hP hD hS hl
  subst hst
  have hF : ∀ q, va_A ws H.size q → A q := jr_free hD hS C.2.2.2.2.2.2.1
  refine va_calli (va_runVN (As := As) (rest := rest) ⟨C.1, C.2.1, C.2.2.1, C.2.2.2.1, C.2.2.2.2.1⟩ (hM H.size) cw ⟨jr_blind, va_recv C.2.2.2.2.2.1 hP hc9 he, fun U hU hW => ⟨rfl, by rw [hU], by rw [hU]; exact hP, va_K.moved hW.alike C.2.2.2.2.2.1, hD.weaken (fun _ _ _ _ => trivial), C.2.2.2.2.2.2.2.warm hW⟩⟩ rfl hn hl.1 rfl (lv_room hro) hdg hcl) hS (fun q _ h => hF q h) hF (fun r u t H1 locs1 ht hvm hw hB hz hk hS1 => ?_)
  obtain ⟨hP1, hK1, hD1⟩ := hB
  rw [ht] at hP1
  exact kk r u hw H1 locs1 ls hP1 (hD1.weaken fun _ _ _ h => hF _ h) hS1 hl
theorem jr_callSNi (C : jr_C p s m args c cc nL own Ts D cl tys A) {post : Int32 → S → Prop} {y : MethodName} {wy : List Cond} {rm : Room} {bytes : ByteArray} {maxL index n : Nat} {ret : Option FieldType} {host : String} {As st0 : List Value} (hM : jr_Mi l y wy rm As D cl tys ws wf post) (cw : va_CN R s args own index y host bytes maxL ret wy rm 0 0 n ∧ (Cond.static y).before args s = true ∧ True) (hdg : decode cc pc = .ok (.invokestatic index, 3)) (hn : As.length = n) (hst : st0 = As.reverse ++ rest) (hro : (rest.map fun v => v.category).sum ≤ 8) (hcl : cells ≤ R.cells ∧ slots ≤ R.slots) (kk : ∀ (r : Int32) (u : S), post r u → jr_J p l e R s m args below meth c A D cl nL cells slots Q (wf u) (pc + 3) lv (.int r :: rest)) : jr_J p l e R s m args below meth c A D cl nL cells slots Q ws pc lv st0 := by
  intro H locs ls hP hD hS hl
  subst hst
  have hF : ∀ q, va_A ws H.size q → A q := jr_free hD hS C.2.2.2.2.2.2.1
  refine va_calli (va_runSN (As := As) (rest := rest) ⟨C.1, C.2.1, C.2.2.1, C.2.2.2.1, C.2.2.2.2.1⟩ (hM H.size) cw ⟨jr_blind, fun U hU hW => ⟨rfl, by rw [hU], by rw [hU]; exact hP, va_K.moved hW.alike C.2.2.2.2.2.1, hD.weaken (fun _ _ _ _ => trivial), C.2.2.2.2.2.2.2.warm hW⟩⟩ rfl hn hl.1 rfl (lv_room hro) hdg hcl) hS (fun q _ h => hF q h) hF (fun r u t H1 locs1 ht hvm hw hB hz hk hS1 => ?_)
  obtain ⟨hP1, hK1, hD1⟩ := hB
  rw [ht] at hP1
  exact kk r u hw H1 locs1 ls hP1 (hD1.weaken fun _ _ _ h => hF _ h) hS1 hl
theorem jr_retl (C : jr_C p s m args c cc nL own Ts D cl tys A) {post : Int64 → S → Prop} {u : S} {v : Int64} (hr : meth.sig.returnType = some .long) (hlocks : meth.locks = false) (hdg : decode cc pc = .ok (.lreturn, 1)) (hp : post v u) (hw : ws = wf u) : jr_J p l e R s m args below meth c A D cl nL cells slots (MQ below (va_Ql post (jr_B D cl tys wf A) A) args s cells slots A) ws pc lv [.long v] := by
  subst hw
  intro H locs ls hP hD hS hl
  exact W.lret C.1 C.2.1 hr (fun t ht hW => ⟨⟨v, u, rfl, hp, by rw [ht]; exact hP, va_K.moved hW.alike C.2.2.2.2.2.1, hD⟩, hS.F ht⟩) hS.2.2 hdg hlocks
theorem jr_retXl (C : jr_C p s m args c cc nL own Ts D cl tys A) {post : Int64 → S → Prop} {u : S} {v : Int64} (hr : meth.sig.returnType = some .long) (hlocks : meth.locks = false) (hdg : decode cc pc = .ok (.lreturn, 1)) (hc : cells ≤ MC) (hs : slots ≤ MS) (hp : post v u) (hw : ws = wf u) : jr_J p l e R s m args below meth c A D cl nL cells slots (vx_MQ below (va_Ql post (jr_B D cl tys wf A) A) (jr_X D cl tys wf A xp) args s MC MS A) ws pc lv [.long v] := by
  subst hw
  intro H locs ls hP hD hS hl
  refine W.widen (k := MC) (n := MS) hc hs ?_
  exact vx_ret (W.lret C.1 C.2.1 hr (fun t ht hW => ⟨⟨v, u, rfl, hp, by rw [ht]; exact hP, va_K.moved hW.alike C.2.2.2.2.2.1, hD⟩, hS.F ht⟩) hS.2.2 hdg hlocks)
theorem jr_ofl {y : MethodName} {wy wy' : List Cond} {rm : Room} {av : List Value} {post : Int64 → S → Prop} (hy : plainName y.cls = true) (hw : wy = Cond.code y cc nL (some .long) :: wy') (hav : (lg_sl av).length ≤ nL) (hlv : lv_args 0 av = lv)
    (body : ∀ (p : Program) (e : Env) (s : State) (m : MethodId) (args : Array Value) (below : List Frame) (meth : Method) (c : Code) (A : Nat → Prop), jr_C p s m args c cc nL y.cls wy D cl tys A → meth.sig.returnType = some .long → meth.locks = false → jr_J p l e (headSpec wy rm).room s m args below meth c A D cl nL 0 0 (MQ below (va_Ql post (jr_B D cl tys wf A) A) args s 0 0 A) ws 0 lv []) : jr_Ml l y wy rm av D cl tys ws wf post := by
  intro sz
  refine Met.ofW hy hw ?_
  intro p e s m args below meth c s₁ B hml hv
  obtain ⟨rfl, hsz, hP, hK, hD0, hN⟩ := hv
  subst hsz
  have hl := lv_entry av hav
  rw [hlv] at hl
  rw [lg_entry_eq]
  exact body p e s m _ below meth c (va_A ws s.heap.size) ⟨B.exec, B.bytes, hml, findClass_of_methodNamed B.named, atoms_spec (ws := wy) B.pre, hK, fun q h => Or.inr h, hN⟩ B.returns B.notSynchronized s.heap [] _ hP hD0.self va_S.rf hl
theorem jr_ofFl {y : MethodName} {wy wy' : List Cond} {rm : Room} {av : List Value} {post : Int64 → S → Prop} (hy : plainFor y = true) (hw : wy = Cond.code y cc nL (some .long) :: wy') (hav : (lg_sl av).length ≤ nL) (hlv : lv_args 0 av = lv)
    (body : ∀ (p : Program) (e : Env) (s : State) (m : MethodId) (args : Array Value) (below : List Frame) (meth : Method) (c : Code) (A : Nat → Prop), jr_C p s m args c cc nL y.cls wy D cl tys A → meth.sig.returnType = some .long → meth.locks = false → jr_J p l e (headSpec wy rm).room s m args below meth c A D cl nL 0 0 (MQ below (va_Ql post (jr_B D cl tys wf A) A) args s 0 0 A) ws 0 lv []) : jr_Ml l y wy rm av D cl tys ws wf post := by
  intro sz
  refine va_MetF hy hw ?_
  intro p e s m args below meth c s₁ B hml hv
  obtain ⟨rfl, hsz, hP, hK, hD0, hN⟩ := hv
  subst hsz
  have hl := lv_entry av hav
  rw [hlv] at hl
  rw [lg_entry_eq]
  exact body p e s m _ below meth c (va_A ws s.heap.size) ⟨B.exec, B.bytes, hml, findClass_of_methodNamed B.named, atoms_spec (ws := wy) B.pre, hK, fun q h => Or.inr h, hN⟩ B.returns B.notSynchronized s.heap [] _ hP hD0.self va_S.rf hl
theorem jr_ofXl {y : MethodName} {wy wy' : List Cond} {rm : Room} {av : List Value} {post : Int64 → S → Prop} (hy : plainName y.cls = true) (hw : wy = Cond.code y cc nL (some .long) :: wy') (hav : (lg_sl av).length ≤ nL) (hlv : lv_args 0 av = lv)
    (body : ∀ (p : Program) (e : Env) (s : State) (m : MethodId) (args : Array Value) (below : List Frame) (meth : Method) (c : Code) (A : Nat → Prop), jr_C p s m args c cc nL y.cls wy D cl tys A → meth.sig.returnType = some .long → meth.locks = false → (∀ x ∈ c.exceptionTable.toList, False) → jr_Z A s s.heap → (∀ q ∈ ss, vk_R q.1 q.2.1 q.2.2.1 q.2.2.2 s) → jr_J p l e (headSpec wy rm).room s m args below meth c A D cl nL 0 0 (vx_MQ below (va_Ql post (jr_B D cl tys wf A) A) (jr_X D cl tys wf A xp) args s mc ms A) ws 0 lv []) : jr_Tl l y wy rm av D cl tys ws ss wf post xp mc ms := by
  intro sz
  refine vx_ofW hy hw ?_
  intro p e s m args below meth c s₁ B hml hnt hv
  obtain ⟨rfl, ⟨hsz, hP, hK, hD0, hN⟩, hZ, hs9⟩ := hv
  subst hsz
  have hl := lv_entry av hav
  rw [hlv] at hl
  rw [lg_entry_eq]
  exact body p e s m _ below meth c (va_A ws s.heap.size) ⟨B.exec, B.bytes, hml, findClass_of_methodNamed B.named, atoms_spec (ws := wy) B.pre, hK, fun q h => Or.inr h, hN⟩ B.returns B.notSynchronized hnt hZ hs9 s.heap [] _ hP hD0.self va_S.rf hl
theorem jr_callVl (C : jr_C p s m args c cc nL own Ts D cl tys A) {post : Int64 → S → Prop} {y : MethodName} {wy : List Cond} {rm : Room} {bytes : ByteArray} {maxL index n : Nat} {ret : Option FieldType} {As st0 : List Value} {Cn : String} {T : u_T} {N ci q0 b : Nat} {fs : List Value} (hM : jr_Ml l y wy rm (.ref b :: As) D cl tys ws wf post) (cw : CallW R s args own Cn index y bytes maxL ret wy rm 0 0 n) (hdg : decode cc pc = .ok (.invokevirtual index, 3)) (hc9 : cl[ci]? = some (Cn, T, N)) (he : ws[q0]? = some (b, .inr (ci, fs))) (hn : As.length = n) (hst : st0 = As.reverse ++ .ref b :: rest) (hro : (rest.map fun v => v.category).sum ≤ 8) (hcl : cells ≤ R.cells ∧ slots ≤ R.slots) (kk : ∀ (r : Int64) (u : S), post r u → jr_J p l e R s m args below meth c A D cl nL cells slots Q (wf u) (pc + 3) lv (.long r :: rest)) : jr_J p l e R s m args below meth c A D cl nL cells slots Q ws pc lv st0 := by
  intro H locs ls hP hD hS hl
  subst hst
  have hF : ∀ q, va_A ws H.size q → A q := jr_free hD hS C.2.2.2.2.2.2.1
  refine va_calll (va_runV (As := As) (rest := rest) ⟨C.1, C.2.1, C.2.2.1, C.2.2.2.1, C.2.2.2.2.1⟩ (hM H.size) cw ⟨jr_blind, va_recv C.2.2.2.2.2.1 hP hc9 he, fun U hU hW => ⟨rfl, by rw [hU], by rw [hU]; exact hP, va_K.moved hW.alike C.2.2.2.2.2.1, hD.weaken (fun _ _ _ _ => trivial), C.2.2.2.2.2.2.2.warm hW⟩⟩ rfl hn hl.1 rfl (lv_room hro) hdg hcl) hS (fun q _ h => hF q h) hF (fun r u t H1 locs1 ht hvm hw hB hz hk hS1 => ?_)
  obtain ⟨hP1, hK1, hD1⟩ := hB
  rw [ht] at hP1
  exact kk r u hw H1 locs1 ls hP1 (hD1.weaken fun _ _ _ h => hF _ h) hS1 hl
theorem jr_callXVli (C : jr_C p s m args c cc nL own Ts D cl tys A) {post : Int64 → S → Prop} {postq : Int32 → S → Prop} {y : MethodName} {wy : List Cond} {rm : Room} {bytes : ByteArray} {maxL index n : Nat} {ret : Option FieldType} {As st0 : List Value} {Cn : String} {T : u_T} {N ci q0 b : Nat} {fs : List Value} (hlocks : meth.locks = false) (hnt : ∀ x ∈ c.exceptionTable.toList, False) (hZ : jr_Z A s s.heap) (hss : ∀ q ∈ ss', vk_R q.1 q.2.1 q.2.2.1 q.2.2.2 s) (hM : jr_Tl l y wy rm (.ref b :: As) D cl tys ws ss' wf post xp' mc ms) (cw : CallW R s args own Cn index y bytes maxL ret wy rm mc ms n) (hdg : decode cc pc = .ok (.invokevirtual index, 3)) (hc9 : cl[ci]? = some (Cn, T, N)) (he : ws[q0]? = some (b, .inr (ci, fs))) (hn : As.length = n) (hst : st0 = As.reverse ++ .ref b :: rest) (hro : (rest.map fun v => v.category).sum ≤ 8) (hcl : cells + mc ≤ R.cells ∧ slots + ms ≤ R.slots) (hc : cells + mc ≤ MC) (hs : slots + ms ≤ MS) (kx : ∀ (E : String) (u : S), xp' E u → xp E u) (kk : ∀ (r : Int64) (u : S), post r u → jr_J p l e R s m args below meth c A D cl nL (cells + mc) (slots + ms) (vx_MQ below (va_Qi postq (jr_B D cl tys wf A) A) (jr_X D cl tys wf A xp) args s MC MS A) (wf u) (pc + 3) lv (.long r :: rest)) : jr_J p l e R s m args below meth c A D cl nL cells slots (vx_MQ below (va_Qi postq (jr_B D cl tys wf A) A) (jr_X D cl tys wf A xp) args s MC MS A) ws pc lv st0 := by
  intro H locs ls hP hD hS hl
  subst hst
  have hF : ∀ q, va_A ws H.size q → A q := jr_free hD hS C.2.2.2.2.2.2.1
  refine vx_calll (vx_runV (As := As) (rest := rest) ⟨C.1, C.2.1, C.2.2.1, C.2.2.2.1, C.2.2.2.2.1⟩ (hM H.size) cw ⟨jr_blindX, va_recv C.2.2.2.2.2.1 hP hc9 he, fun U hU hW => ⟨rfl, ⟨by rw [hU], by rw [hU]; exact hP, va_K.moved hW.alike C.2.2.2.2.2.1, hD.weaken (fun _ _ _ _ => trivial), C.2.2.2.2.2.2.2.warm hW⟩, hZ.at hS hF hU hW.alike, fun q hq => (hss q hq).warm hW⟩⟩ rfl hn hl.1 rfl (lv_room hro) hdg hcl) hS (fun q _ h => hF q h) hF (fun q _ h => hF q h) (fun E ce q9 u t H1 locs1 ht hvm _ hBX hz hk hS1 hce hcv hcl9 => ?_) (fun r u t H1 locs1 ht hvm hw hB hz hk hS1 => ?_)
  · obtain ⟨hxe, hP1, hK1, hD1⟩ := hBX
    rw [ht] at hP1
    exact vx_out (fun x hx => (hnt x hx).elim) hlocks hce hcv hcl9 (fun t' ht' hvm' => ⟨u, trivial, ⟨kx E u hxe, by rw [ht']; exact hP1, va_K.moved hvm' C.2.2.2.2.2.1, hD1.weaken fun _ _ _ h => hF _ h⟩, hS1.F ht'⟩) hS1.2.2 hc hs
  · obtain ⟨hP1, hK1, hD1⟩ := hB
    rw [ht] at hP1
    exact kk r u hw H1 locs1 ls hP1 (hD1.weaken fun _ _ _ h => hF _ h) hS1 hl
theorem jr_callXVll (C : jr_C p s m args c cc nL own Ts D cl tys A) {post : Int64 → S → Prop} {postq : Int64 → S → Prop} {y : MethodName} {wy : List Cond} {rm : Room} {bytes : ByteArray} {maxL index n : Nat} {ret : Option FieldType} {As st0 : List Value} {Cn : String} {T : u_T} {N ci q0 b : Nat} {fs : List Value} (hlocks : meth.locks = false) (hnt : ∀ x ∈ c.exceptionTable.toList, False) (hZ : jr_Z A s s.heap) (hss : ∀ q ∈ ss', vk_R q.1 q.2.1 q.2.2.1 q.2.2.2 s) (hM : jr_Tl l y wy rm (.ref b :: As) D cl tys ws ss' wf post xp' mc ms) (cw : CallW R s args own Cn index y bytes maxL ret wy rm mc ms n) (hdg : decode cc pc = .ok (.invokevirtual index, 3)) (hc9 : cl[ci]? = some (Cn, T, N)) (he : ws[q0]? = some (b, .inr (ci, fs))) (hn : As.length = n) (hst : st0 = As.reverse ++ .ref b :: rest) (hro : (rest.map fun v => v.category).sum ≤ 8) (hcl : cells + mc ≤ R.cells ∧ slots + ms ≤ R.slots) (hc : cells + mc ≤ MC) (hs : slots + ms ≤ MS) (kx : ∀ (E : String) (u : S), xp' E u → xp E u) (kk : ∀ (r : Int64) (u : S), post r u → jr_J p l e R s m args below meth c A D cl nL (cells + mc) (slots + ms) (vx_MQ below (va_Ql postq (jr_B D cl tys wf A) A) (jr_X D cl tys wf A xp) args s MC MS A) (wf u) (pc + 3) lv (.long r :: rest)) : jr_J p l e R s m args below meth c A D cl nL cells slots (vx_MQ below (va_Ql postq (jr_B D cl tys wf A) A) (jr_X D cl tys wf A xp) args s MC MS A) ws pc lv st0 := by
  intro H locs ls hP hD hS hl
  subst hst
  have hF : ∀ q, va_A ws H.size q → A q := jr_free hD hS C.2.2.2.2.2.2.1
  refine vx_calll (vx_runV (As := As) (rest := rest) ⟨C.1, C.2.1, C.2.2.1, C.2.2.2.1, C.2.2.2.2.1⟩ (hM H.size) cw ⟨jr_blindX, va_recv C.2.2.2.2.2.1 hP hc9 he, fun U hU hW => ⟨rfl, ⟨by rw [hU], by rw [hU]; exact hP, va_K.moved hW.alike C.2.2.2.2.2.1, hD.weaken (fun _ _ _ _ => trivial), C.2.2.2.2.2.2.2.warm hW⟩, hZ.at hS hF hU hW.alike, fun q hq => (hss q hq).warm hW⟩⟩ rfl hn hl.1 rfl (lv_room hro) hdg hcl) hS (fun q _ h => hF q h) hF (fun q _ h => hF q h) (fun E ce q9 u t H1 locs1 ht hvm _ hBX hz hk hS1 hce hcv hcl9 => ?_) (fun r u t H1 locs1 ht hvm hw hB hz hk hS1 => ?_)
  · obtain ⟨hxe, hP1, hK1, hD1⟩ := hBX
    rw [ht] at hP1
    exact vx_out (fun x hx => (hnt x hx).elim) hlocks hce hcv hcl9 (fun t' ht' hvm' => ⟨u, trivial, ⟨kx E u hxe, by rw [ht']; exact hP1, va_K.moved hvm' C.2.2.2.2.2.1, hD1.weaken fun _ _ _ h => hF _ h⟩, hS1.F ht'⟩) hS1.2.2 hc hs
  · obtain ⟨hP1, hK1, hD1⟩ := hB
    rw [ht] at hP1
    exact kk r u hw H1 locs1 ls hP1 (hD1.weaken fun _ _ _ h => hF _ h) hS1 hl
theorem jr_callXVlv (C : jr_C p s m args c cc nL own Ts D cl tys A) {post : Int64 → S → Prop} {postq : S → Prop} {y : MethodName} {wy : List Cond} {rm : Room} {bytes : ByteArray} {maxL index n : Nat} {ret : Option FieldType} {As st0 : List Value} {Cn : String} {T : u_T} {N ci q0 b : Nat} {fs : List Value} (hlocks : meth.locks = false) (hnt : ∀ x ∈ c.exceptionTable.toList, False) (hZ : jr_Z A s s.heap) (hss : ∀ q ∈ ss', vk_R q.1 q.2.1 q.2.2.1 q.2.2.2 s) (hM : jr_Tl l y wy rm (.ref b :: As) D cl tys ws ss' wf post xp' mc ms) (cw : CallW R s args own Cn index y bytes maxL ret wy rm mc ms n) (hdg : decode cc pc = .ok (.invokevirtual index, 3)) (hc9 : cl[ci]? = some (Cn, T, N)) (he : ws[q0]? = some (b, .inr (ci, fs))) (hn : As.length = n) (hst : st0 = As.reverse ++ .ref b :: rest) (hro : (rest.map fun v => v.category).sum ≤ 8) (hcl : cells + mc ≤ R.cells ∧ slots + ms ≤ R.slots) (hc : cells + mc ≤ MC) (hs : slots + ms ≤ MS) (kx : ∀ (E : String) (u : S), xp' E u → xp E u) (kk : ∀ (r : Int64) (u : S), post r u → jr_J p l e R s m args below meth c A D cl nL (cells + mc) (slots + ms) (vx_MQ below (va_Qv postq (jr_B D cl tys wf A) A) (jr_X D cl tys wf A xp) args s MC MS A) (wf u) (pc + 3) lv (.long r :: rest)) : jr_J p l e R s m args below meth c A D cl nL cells slots (vx_MQ below (va_Qv postq (jr_B D cl tys wf A) A) (jr_X D cl tys wf A xp) args s MC MS A) ws pc lv st0 := by
  intro H locs ls hP hD hS hl
  subst hst
  have hF : ∀ q, va_A ws H.size q → A q := jr_free hD hS C.2.2.2.2.2.2.1
  refine vx_calll (vx_runV (As := As) (rest := rest) ⟨C.1, C.2.1, C.2.2.1, C.2.2.2.1, C.2.2.2.2.1⟩ (hM H.size) cw ⟨jr_blindX, va_recv C.2.2.2.2.2.1 hP hc9 he, fun U hU hW => ⟨rfl, ⟨by rw [hU], by rw [hU]; exact hP, va_K.moved hW.alike C.2.2.2.2.2.1, hD.weaken (fun _ _ _ _ => trivial), C.2.2.2.2.2.2.2.warm hW⟩, hZ.at hS hF hU hW.alike, fun q hq => (hss q hq).warm hW⟩⟩ rfl hn hl.1 rfl (lv_room hro) hdg hcl) hS (fun q _ h => hF q h) hF (fun q _ h => hF q h) (fun E ce q9 u t H1 locs1 ht hvm _ hBX hz hk hS1 hce hcv hcl9 => ?_) (fun r u t H1 locs1 ht hvm hw hB hz hk hS1 => ?_)
  · obtain ⟨hxe, hP1, hK1, hD1⟩ := hBX
    rw [ht] at hP1
    exact vx_out (fun x hx => (hnt x hx).elim) hlocks hce hcv hcl9 (fun t' ht' hvm' => ⟨u, trivial, ⟨kx E u hxe, by rw [ht']; exact hP1, va_K.moved hvm' C.2.2.2.2.2.1, hD1.weaken fun _ _ _ h => hF _ h⟩, hS1.F ht'⟩) hS1.2.2 hc hs
  · obtain ⟨hP1, hK1, hD1⟩ := hB
    rw [ht] at hP1
    exact kk r u hw H1 locs1 ls hP1 (hD1.weaken fun _ _ _ h => hF _ h) hS1 hl
theorem jr_callSl (C : jr_C p s m args c cc nL own Ts D cl tys A) {post : Int64 → S → Prop} {y : MethodName} {wy : List Cond} {rm : Room} {bytes : ByteArray} {maxL index n : Nat} {ret : Option FieldType} {As st0 : List Value} (hM : jr_Ml l y wy rm As D cl tys ws wf post) (cw : CallB R s args own index y bytes maxL ret wy rm 0 0 n ∧ (Cond.static y).before args s = true) (hdg : decode cc pc = .ok (.invokestatic index, 3)) (hn : As.length = n) (hst : st0 = As.reverse ++ rest) (hro : (rest.map fun v => v.category).sum ≤ 8) (hcl : cells ≤ R.cells ∧ slots ≤ R.slots) (kk : ∀ (r : Int64) (u : S), post r u → jr_J p l e R s m args below meth c A D cl nL cells slots Q (wf u) (pc + 3) lv (.long r :: rest)) : jr_J p l e R s m args below meth c A D cl nL cells slots Q ws pc lv st0 := by
  intro H locs ls hP hD hS hl
  subst hst
  have hF : ∀ q, va_A ws H.size q → A q := jr_free hD hS C.2.2.2.2.2.2.1
  refine va_calll (va_runS (As := As) (rest := rest) ⟨C.1, C.2.1, C.2.2.1, C.2.2.2.1, C.2.2.2.2.1⟩ (hM H.size) cw ⟨jr_blind, fun U hU hW => ⟨rfl, by rw [hU], by rw [hU]; exact hP, va_K.moved hW.alike C.2.2.2.2.2.1, hD.weaken (fun _ _ _ _ => trivial), C.2.2.2.2.2.2.2.warm hW⟩⟩ rfl hn hl.1 rfl (lv_room hro) hdg hcl) hS (fun q _ h => hF q h) hF (fun r u t H1 locs1 ht hvm hw hB hz hk hS1 => ?_)
  obtain ⟨hP1, hK1, hD1⟩ := hB
  rw [ht] at hP1
  exact kk r u hw H1 locs1 ls hP1 (hD1.weaken fun _ _ _ h => hF _ h) hS1 hl
theorem jr_callXSli (C : jr_C p s m args c cc nL own Ts D cl tys A) {post : Int64 → S → Prop} {postq : Int32 → S → Prop} {y : MethodName} {wy : List Cond} {rm : Room} {bytes : ByteArray} {maxL index n : Nat} {ret : Option FieldType} {As st0 : List Value} (hlocks : meth.locks = false) (hnt : ∀ x ∈ c.exceptionTable.toList, False) (hZ : jr_Z A s s.heap) (hss : ∀ q ∈ ss', vk_R q.1 q.2.1 q.2.2.1 q.2.2.2 s) (hM : jr_Tl l y wy rm As D cl tys ws ss' wf post xp' mc ms) (cw : CallB R s args own index y bytes maxL ret wy rm mc ms n ∧ (Cond.static y).before args s = true) (hdg : decode cc pc = .ok (.invokestatic index, 3)) (hn : As.length = n) (hst : st0 = As.reverse ++ rest) (hro : (rest.map fun v => v.category).sum ≤ 8) (hcl : cells + mc ≤ R.cells ∧ slots + ms ≤ R.slots) (hc : cells + mc ≤ MC) (hs : slots + ms ≤ MS) (kx : ∀ (E : String) (u : S), xp' E u → xp E u) (kk : ∀ (r : Int64) (u : S), post r u → jr_J p l e R s m args below meth c A D cl nL (cells + mc) (slots + ms) (vx_MQ below (va_Qi postq (jr_B D cl tys wf A) A) (jr_X D cl tys wf A xp) args s MC MS A) (wf u) (pc + 3) lv (.long r :: rest)) : jr_J p l e R s m args below meth c A D cl nL cells slots (vx_MQ below (va_Qi postq (jr_B D cl tys wf A) A) (jr_X D cl tys wf A xp) args s MC MS A) ws pc lv st0 := by
  intro H locs ls hP hD hS hl
  subst hst
  have hF : ∀ q, va_A ws H.size q → A q := jr_free hD hS C.2.2.2.2.2.2.1
  refine vx_calll (vx_runS (As := As) (rest := rest) ⟨C.1, C.2.1, C.2.2.1, C.2.2.2.1, C.2.2.2.2.1⟩ (hM H.size) cw ⟨jr_blindX, fun U hU hW => ⟨rfl, ⟨by rw [hU], by rw [hU]; exact hP, va_K.moved hW.alike C.2.2.2.2.2.1, hD.weaken (fun _ _ _ _ => trivial), C.2.2.2.2.2.2.2.warm hW⟩, hZ.at hS hF hU hW.alike, fun q hq => (hss q hq).warm hW⟩⟩ rfl hn hl.1 rfl (lv_room hro) hdg hcl) hS (fun q _ h => hF q h) hF (fun q _ h => hF q h) (fun E ce q9 u t H1 locs1 ht hvm _ hBX hz hk hS1 hce hcv hcl9 => ?_) (fun r u t H1 locs1 ht hvm hw hB hz hk hS1 => ?_)
  · obtain ⟨hxe, hP1, hK1, hD1⟩ := hBX
    rw [ht] at hP1
    exact vx_out (fun x hx => (hnt x hx).elim) hlocks hce hcv hcl9 (fun t' ht' hvm' => ⟨u, trivial, ⟨kx E u hxe, by rw [ht']; exact hP1, va_K.moved hvm' C.2.2.2.2.2.1, hD1.weaken fun _ _ _ h => hF _ h⟩, hS1.F ht'⟩) hS1.2.2 hc hs
  · obtain ⟨hP1, hK1, hD1⟩ := hB
    rw [ht] at hP1
    exact kk r u hw H1 locs1 ls hP1 (hD1.weaken fun _ _ _ h => hF _ h) hS1 hl
theorem jr_callXSll (C : jr_C p s m args c cc nL own Ts D cl tys A) {post : Int64 → S → Prop} {postq : Int64 → S → Prop} {y : MethodName} {wy : List Cond} {rm : Room} {bytes : ByteArray} {maxL index n : Nat} {ret : Option FieldType} {As st0 : List Value} (hlocks : meth.locks = false) (hnt : ∀ x ∈ c.exceptionTable.toList, False) (hZ : jr_Z A s s.heap) (hss : ∀ q ∈ ss', vk_R q.1 q.2.1 q.2.2.1 q.2.2.2 s) (hM : jr_Tl l y wy rm As D cl tys ws ss' wf post xp' mc ms) (cw : CallB R s args own index y bytes maxL ret wy rm mc ms n ∧ (Cond.static y).before args s = true) (hdg : decode cc pc = .ok (.invokestatic index, 3)) (hn : As.length = n) (hst : st0 = As.reverse ++ rest) (hro : (rest.map fun v => v.category).sum ≤ 8) (hcl : cells + mc ≤ R.cells ∧ slots + ms ≤ R.slots) (hc : cells + mc ≤ MC) (hs : slots + ms ≤ MS) (kx : ∀ (E : String) (u : S), xp' E u → xp E u) (kk : ∀ (r : Int64) (u : S), post r u → jr_J p l e R s m args below meth c A D cl nL (cells + mc) (slots + ms) (vx_MQ below (va_Ql postq (jr_B D cl tys wf A) A) (jr_X D cl tys wf A xp) args s MC MS A) (wf u) (pc + 3) lv (.long r :: rest)) : jr_J p l e R s m args below meth c A D cl nL cells slots (vx_MQ below (va_Ql postq (jr_B D cl tys wf A) A) (jr_X D cl tys wf A xp) args s MC MS A) ws pc lv st0 := by
  intro H locs ls hP hD hS hl
  subst hst
  have hF : ∀ q, va_A ws H.size q → A q := jr_free hD hS C.2.2.2.2.2.2.1
  refine vx_calll (vx_runS (As := As) (rest := rest) ⟨C.1, C.2.1, C.2.2.1, C.2.2.2.1, C.2.2.2.2.1⟩ (hM H.size) cw ⟨jr_blindX, fun U hU hW => ⟨rfl, ⟨by rw [hU], by rw [hU]; exact hP, va_K.moved hW.alike C.2.2.2.2.2.1, hD.weaken (fun _ _ _ _ => trivial), C.2.2.2.2.2.2.2.warm hW⟩, hZ.at hS hF hU hW.alike, fun q hq => (hss q hq).warm hW⟩⟩ rfl hn hl.1 rfl (lv_room hro) hdg hcl) hS (fun q _ h => hF q h) hF (fun q _ h => hF q h) (fun E ce q9 u t H1 locs1 ht hvm _ hBX hz hk hS1 hce hcv hcl9 => ?_) (fun r u t H1 locs1 ht hvm hw hB hz hk hS1 => ?_)
  · obtain ⟨hxe, hP1, hK1, hD1⟩ := hBX
    rw [ht] at hP1
    exact vx_out (fun x hx => (hnt x hx).elim) hlocks hce hcv hcl9 (fun t' ht' hvm' => ⟨u, trivial, ⟨kx E u hxe, by rw [ht']; exact hP1, va_K.moved hvm' C.2.2.2.2.2.1, hD1.weaken fun _ _ _ h => hF _ h⟩, hS1.F ht'⟩) hS1.2.2 hc hs
  · obtain ⟨hP1, hK1, hD1⟩ := hB
    rw [ht] at hP1
    exact kk r u hw H1 locs1 ls hP1 (hD1.weaken fun _ _ _ h => hF _ h) hS1 hl
theorem jr_callXSlv (C : jr_C p s m args c cc nL own Ts D cl tys A) {post : Int64 → S → Prop} {postq : S → Prop} {y : MethodName} {wy : List Cond} {rm : Room} {bytes : ByteArray} {maxL index n : Nat} {ret : Option FieldType} {As st0 : List Value} (hlocks : meth.locks = false) (hnt : ∀ x ∈ c.exceptionTable.toList, False) (hZ : jr_Z A s s.heap) (hss : ∀ q ∈ ss', vk_R q.1 q.2.1 q.2.2.1 q.2.2.2 s) (hM : jr_Tl l y wy rm As D cl tys ws ss' wf post xp' mc ms) (cw : CallB R s args own index y bytes maxL ret wy rm mc ms n ∧ (Cond.static y).before args s = true) (hdg : decode cc pc = .ok (.invokestatic index, 3)) (hn : As.length = n) (hst : st0 = As.reverse ++ rest) (hro : (rest.map fun v => v.category).sum ≤ 8) (hcl : cells + mc ≤ R.cells ∧ slots + ms ≤ R.slots) (hc : cells + mc ≤ MC) (hs : slots + ms ≤ MS) (kx : ∀ (E : String) (u : S), xp' E u → xp E u) (kk : ∀ (r : Int64) (u : S), post r u → jr_J p l e R s m args below meth c A D cl nL (cells + mc) (slots + ms) (vx_MQ below (va_Qv postq (jr_B D cl tys wf A) A) (jr_X D cl tys wf A xp) args s MC MS A) (wf u) (pc + 3) lv (.long r :: rest)) : jr_J p l e R s m args below meth c A D cl nL cells slots (vx_MQ below (va_Qv postq (jr_B D cl tys wf A) A) (jr_X D cl tys wf A xp) args s MC MS A) ws pc lv st0 := by
  intro H locs ls hP hD hS hl
  subst hst
  have hF : ∀ q, va_A ws H.size q → A q := jr_free hD hS C.2.2.2.2.2.2.1
  refine vx_calll (vx_runS (As := As) (rest := rest) ⟨C.1, C.2.1, C.2.2.1, C.2.2.2.1, C.2.2.2.2.1⟩ (hM H.size) cw ⟨jr_blindX, fun U hU hW => ⟨rfl, ⟨by rw [hU], by rw [hU]; exact hP, va_K.moved hW.alike C.2.2.2.2.2.1, hD.weaken (fun _ _ _ _ => trivial), C.2.2.2.2.2.2.2.warm hW⟩, hZ.at hS hF hU hW.alike, fun q hq => (hss q hq).warm hW⟩⟩ rfl hn hl.1 rfl (lv_room hro) hdg hcl) hS (fun q _ h => hF q h) hF (fun q _ h => hF q h) (fun E ce q9 u t H1 locs1 ht hvm _ hBX hz hk hS1 hce hcv hcl9 => ?_) (fun r u t H1 locs1 ht hvm hw hB hz hk hS1 => ?_)
  · obtain ⟨hxe, hP1, hK1, hD1⟩ := hBX
    rw [ht] at hP1
    exact vx_out (fun x hx => (hnt x hx).elim) hlocks hce hcv hcl9 (fun t' ht' hvm' => ⟨u, trivial, ⟨kx E u hxe, by rw [ht']; exact hP1, va_K.moved hvm' C.2.2.2.2.2.1, hD1.weaken fun _ _ _ h => hF _ h⟩, hS1.F ht'⟩) hS1.2.2 hc hs
  · obtain ⟨hP1, hK1, hD1⟩ := hB
    rw [ht] at hP1
    exact kk r u hw H1 locs1 ls hP1 (hD1.weaken fun _ _ _ h => hF _ h) hS1 hl
theorem jr_callVNl (C : jr_C p s m args c cc nL own Ts D cl tys A) {post : Int64 → S → Prop} {y : MethodName} {wy : List Cond} {rm : Room} {bytes : ByteArray} {maxL index n : Nat} {ret : Option FieldType} {host : String} {As st0 : List Value} {Cn : String} {T : u_T} {N ci q0 b : Nat} {fs : List Value} (hM : jr_Ml l y wy rm (.ref b :: As) D cl tys ws wf post) (cw : va_CN R s args own index y host bytes maxL ret wy rm 0 0 n ∧ (Cond.instanceMethod y).before args s = true ∧ (Cond.selects Cn y y).before args s = true) (hdg : decode cc pc = .ok (.invokevirtual index, 3)) (hc9 : cl[ci]? = some (Cn, T, N)) (he : ws[q0]? = some (b, .inr (ci, fs))) (hn : As.length = n) (hst : st0 = As.reverse ++ .ref b :: rest) (hro : (rest.map fun v => v.category).sum ≤ 8) (hcl : cells ≤ R.cells ∧ slots ≤ R.slots) (kk : ∀ (r : Int64) (u : S), post r u → jr_J p l e R s m args below meth c A D cl nL cells slots Q (wf u) (pc + 3) lv (.long r :: rest)) : jr_J p l e R s m args below meth c A D cl nL cells slots Q ws pc lv st0 := by
  intro H locs ls hP hD hS hl
  subst hst
  have hF : ∀ q, va_A ws H.size q → A q := jr_free hD hS C.2.2.2.2.2.2.1
  refine va_calll (va_runVN (As := As) (rest := rest) ⟨C.1, C.2.1, C.2.2.1, C.2.2.2.1, C.2.2.2.2.1⟩ (hM H.size) cw ⟨jr_blind, va_recv C.2.2.2.2.2.1 hP hc9 he, fun U hU hW => ⟨rfl, by rw [hU], by rw [hU]; exact hP, va_K.moved hW.alike C.2.2.2.2.2.1, hD.weaken (fun _ _ _ _ => trivial), C.2.2.2.2.2.2.2.warm hW⟩⟩ rfl hn hl.1 rfl (lv_room hro) hdg hcl) hS (fun q _ h => hF q h) hF (fun r u t H1 locs1 ht hvm hw hB hz hk hS1 => ?_)
  obtain ⟨hP1, hK1, hD1⟩ := hB
  rw [ht] at hP1
  exact kk r u hw H1 locs1 ls hP1 (hD1.weaken fun _ _ _ h => hF _ h) hS1 hl
theorem jr_callSNl (C : jr_C p s m args c cc nL own Ts D cl tys A) {post : Int64 → S → Prop} {y : MethodName} {wy : List Cond} {rm : Room} {bytes : ByteArray} {maxL index n : Nat} {ret : Option FieldType} {host : String} {As st0 : List Value} (hM : jr_Ml l y wy rm As D cl tys ws wf post) (cw : va_CN R s args own index y host bytes maxL ret wy rm 0 0 n ∧ (Cond.static y).before args s = true ∧ True) (hdg : decode cc pc = .ok (.invokestatic index, 3)) (hn : As.length = n) (hst : st0 = As.reverse ++ rest) (hro : (rest.map fun v => v.category).sum ≤ 8) (hcl : cells ≤ R.cells ∧ slots ≤ R.slots) (kk : ∀ (r : Int64) (u : S), post r u → jr_J p l e R s m args below meth c A D cl nL cells slots Q (wf u) (pc + 3) lv (.long r :: rest)) : jr_J p l e R s m args below meth c A D cl nL cells slots Q ws pc lv st0 := by
  intro H locs ls hP hD hS hl
  subst hst
  have hF : ∀ q, va_A ws H.size q → A q := jr_free hD hS C.2.2.2.2.2.2.1
  refine va_calll (va_runSN (As := As) (rest := rest) ⟨C.1, C.2.1, C.2.2.1, C.2.2.2.1, C.2.2.2.2.1⟩ (hM H.size) cw ⟨jr_blind, fun U hU hW => ⟨rfl, by rw [hU], by rw [hU]; exact hP, va_K.moved hW.alike C.2.2.2.2.2.1, hD.weaken (fun _ _ _ _ => trivial), C.2.2.2.2.2.2.2.warm hW⟩⟩ rfl hn hl.1 rfl (lv_room hro) hdg hcl) hS (fun q _ h => hF q h) hF (fun r u t H1 locs1 ht hvm hw hB hz hk hS1 => ?_)
  obtain ⟨hP1, hK1, hD1⟩ := hB
  rw [ht] at hP1
  exact kk r u hw H1 locs1 ls hP1 (hD1.weaken fun _ _ _ h => hF _ h) hS1 hl
theorem jr_retv (C : jr_C p s m args c cc nL own Ts D cl tys A) {post : S → Prop} {u : S}  (hr : meth.sig.returnType = none) (hlocks : meth.locks = false) (hdg : decode cc pc = .ok (.return_, 1)) (hp : post u) (hw : ws = wf u) : jr_J p l e R s m args below meth c A D cl nL cells slots (MQ below (va_Qv post (jr_B D cl tys wf A) A) args s cells slots A) ws pc lv [] := by
  subst hw
  intro H locs ls hP hD hS hl
  exact W.vret C.1 C.2.1 hr (fun t ht hW => ⟨⟨u, rfl, hp, by rw [ht]; exact hP, va_K.moved hW.alike C.2.2.2.2.2.1, hD⟩, hS.F ht⟩) hS.2.2 hdg hlocks
theorem jr_retXv (C : jr_C p s m args c cc nL own Ts D cl tys A) {post : S → Prop} {u : S}  (hr : meth.sig.returnType = none) (hlocks : meth.locks = false) (hdg : decode cc pc = .ok (.return_, 1)) (hc : cells ≤ MC) (hs : slots ≤ MS) (hp : post u) (hw : ws = wf u) : jr_J p l e R s m args below meth c A D cl nL cells slots (vx_MQ below (va_Qv post (jr_B D cl tys wf A) A) (jr_X D cl tys wf A xp) args s MC MS A) ws pc lv [] := by
  subst hw
  intro H locs ls hP hD hS hl
  refine W.widen (k := MC) (n := MS) hc hs ?_
  exact vx_ret (W.vret C.1 C.2.1 hr (fun t ht hW => ⟨⟨u, rfl, hp, by rw [ht]; exact hP, va_K.moved hW.alike C.2.2.2.2.2.1, hD⟩, hS.F ht⟩) hS.2.2 hdg hlocks)
theorem jr_ofv {y : MethodName} {wy wy' : List Cond} {rm : Room} {av : List Value} {post : S → Prop} (hy : plainName y.cls = true) (hw : wy = Cond.code y cc nL (none) :: wy') (hav : (lg_sl av).length ≤ nL) (hlv : lv_args 0 av = lv)
    (body : ∀ (p : Program) (e : Env) (s : State) (m : MethodId) (args : Array Value) (below : List Frame) (meth : Method) (c : Code) (A : Nat → Prop), jr_C p s m args c cc nL y.cls wy D cl tys A → meth.sig.returnType = none → meth.locks = false → jr_J p l e (headSpec wy rm).room s m args below meth c A D cl nL 0 0 (MQ below (va_Qv post (jr_B D cl tys wf A) A) args s 0 0 A) ws 0 lv []) : jr_Mv l y wy rm av D cl tys ws wf post := by
  intro sz
  refine Met.ofW hy hw ?_
  intro p e s m args below meth c s₁ B hml hv
  obtain ⟨rfl, hsz, hP, hK, hD0, hN⟩ := hv
  subst hsz
  have hl := lv_entry av hav
  rw [hlv] at hl
  rw [lg_entry_eq]
  exact body p e s m _ below meth c (va_A ws s.heap.size) ⟨B.exec, B.bytes, hml, findClass_of_methodNamed B.named, atoms_spec (ws := wy) B.pre, hK, fun q h => Or.inr h, hN⟩ B.returns B.notSynchronized s.heap [] _ hP hD0.self va_S.rf hl
theorem jr_ofFv {y : MethodName} {wy wy' : List Cond} {rm : Room} {av : List Value} {post : S → Prop} (hy : plainFor y = true) (hw : wy = Cond.code y cc nL (none) :: wy') (hav : (lg_sl av).length ≤ nL) (hlv : lv_args 0 av = lv)
    (body : ∀ (p : Program) (e : Env) (s : State) (m : MethodId) (args : Array Value) (below : List Frame) (meth : Method) (c : Code) (A : Nat → Prop), jr_C p s m args c cc nL y.cls wy D cl tys A → meth.sig.returnType = none → meth.locks = false → jr_J p l e (headSpec wy rm).room s m args below meth c A D cl nL 0 0 (MQ below (va_Qv post (jr_B D cl tys wf A) A) args s 0 0 A) ws 0 lv []) : jr_Mv l y wy rm av D cl tys ws wf post := by
  intro sz
  refine va_MetF hy hw ?_
  intro p e s m args below meth c s₁ B hml hv
  obtain ⟨rfl, hsz, hP, hK, hD0, hN⟩ := hv
  subst hsz
  have hl := lv_entry av hav
  rw [hlv] at hl
  rw [lg_entry_eq]
  exact body p e s m _ below meth c (va_A ws s.heap.size) ⟨B.exec, B.bytes, hml, findClass_of_methodNamed B.named, atoms_spec (ws := wy) B.pre, hK, fun q h => Or.inr h, hN⟩ B.returns B.notSynchronized s.heap [] _ hP hD0.self va_S.rf hl
theorem jr_ofXv {y : MethodName} {wy wy' : List Cond} {rm : Room} {av : List Value} {post : S → Prop} (hy : plainName y.cls = true) (hw : wy = Cond.code y cc nL (none) :: wy') (hav : (lg_sl av).length ≤ nL) (hlv : lv_args 0 av = lv)
    (body : ∀ (p : Program) (e : Env) (s : State) (m : MethodId) (args : Array Value) (below : List Frame) (meth : Method) (c : Code) (A : Nat → Prop), jr_C p s m args c cc nL y.cls wy D cl tys A → meth.sig.returnType = none → meth.locks = false → (∀ x ∈ c.exceptionTable.toList, False) → jr_Z A s s.heap → (∀ q ∈ ss, vk_R q.1 q.2.1 q.2.2.1 q.2.2.2 s) → jr_J p l e (headSpec wy rm).room s m args below meth c A D cl nL 0 0 (vx_MQ below (va_Qv post (jr_B D cl tys wf A) A) (jr_X D cl tys wf A xp) args s mc ms A) ws 0 lv []) : jr_Tv l y wy rm av D cl tys ws ss wf post xp mc ms := by
  intro sz
  refine vx_ofW hy hw ?_
  intro p e s m args below meth c s₁ B hml hnt hv
  obtain ⟨rfl, ⟨hsz, hP, hK, hD0, hN⟩, hZ, hs9⟩ := hv
  subst hsz
  have hl := lv_entry av hav
  rw [hlv] at hl
  rw [lg_entry_eq]
  exact body p e s m _ below meth c (va_A ws s.heap.size) ⟨B.exec, B.bytes, hml, findClass_of_methodNamed B.named, atoms_spec (ws := wy) B.pre, hK, fun q h => Or.inr h, hN⟩ B.returns B.notSynchronized hnt hZ hs9 s.heap [] _ hP hD0.self va_S.rf hl
theorem jr_callVv (C : jr_C p s m args c cc nL own Ts D cl tys A) {post : S → Prop} {y : MethodName} {wy : List Cond} {rm : Room} {bytes : ByteArray} {maxL index n : Nat} {ret : Option FieldType} {As st0 : List Value} {Cn : String} {T : u_T} {N ci q0 b : Nat} {fs : List Value} (hM : jr_Mv l y wy rm (.ref b :: As) D cl tys ws wf post) (cw : CallW R s args own Cn index y bytes maxL ret wy rm 0 0 n) (hdg : decode cc pc = .ok (.invokevirtual index, 3)) (hc9 : cl[ci]? = some (Cn, T, N)) (he : ws[q0]? = some (b, .inr (ci, fs))) (hn : As.length = n) (hst : st0 = As.reverse ++ .ref b :: rest) (hro : (rest.map fun v => v.category).sum ≤ 8) (hcl : cells ≤ R.cells ∧ slots ≤ R.slots) (kk : ∀ u : S, post u → jr_J p l e R s m args below meth c A D cl nL cells slots Q (wf u) (pc + 3) lv rest) : jr_J p l e R s m args below meth c A D cl nL cells slots Q ws pc lv st0 := by
  intro H locs ls hP hD hS hl
  subst hst
  have hF : ∀ q, va_A ws H.size q → A q := jr_free hD hS C.2.2.2.2.2.2.1
  refine va_callv (va_runV (As := As) (rest := rest) ⟨C.1, C.2.1, C.2.2.1, C.2.2.2.1, C.2.2.2.2.1⟩ (hM H.size) cw ⟨jr_blind, va_recv C.2.2.2.2.2.1 hP hc9 he, fun U hU hW => ⟨rfl, by rw [hU], by rw [hU]; exact hP, va_K.moved hW.alike C.2.2.2.2.2.1, hD.weaken (fun _ _ _ _ => trivial), C.2.2.2.2.2.2.2.warm hW⟩⟩ rfl hn hl.1 rfl (lv_room hro) hdg hcl) hS (fun q _ h => hF q h) hF (fun u t H1 locs1 ht hvm hw hB hz hk hS1 => ?_)
  obtain ⟨hP1, hK1, hD1⟩ := hB
  rw [ht] at hP1
  exact kk u hw H1 locs1 ls hP1 (hD1.weaken fun _ _ _ h => hF _ h) hS1 hl
theorem jr_callXVvi (C : jr_C p s m args c cc nL own Ts D cl tys A) {post : S → Prop} {postq : Int32 → S → Prop} {y : MethodName} {wy : List Cond} {rm : Room} {bytes : ByteArray} {maxL index n : Nat} {ret : Option FieldType} {As st0 : List Value} {Cn : String} {T : u_T} {N ci q0 b : Nat} {fs : List Value} (hlocks : meth.locks = false) (hnt : ∀ x ∈ c.exceptionTable.toList, False) (hZ : jr_Z A s s.heap) (hss : ∀ q ∈ ss', vk_R q.1 q.2.1 q.2.2.1 q.2.2.2 s) (hM : jr_Tv l y wy rm (.ref b :: As) D cl tys ws ss' wf post xp' mc ms) (cw : CallW R s args own Cn index y bytes maxL ret wy rm mc ms n) (hdg : decode cc pc = .ok (.invokevirtual index, 3)) (hc9 : cl[ci]? = some (Cn, T, N)) (he : ws[q0]? = some (b, .inr (ci, fs))) (hn : As.length = n) (hst : st0 = As.reverse ++ .ref b :: rest) (hro : (rest.map fun v => v.category).sum ≤ 8) (hcl : cells + mc ≤ R.cells ∧ slots + ms ≤ R.slots) (hc : cells + mc ≤ MC) (hs : slots + ms ≤ MS) (kx : ∀ (E : String) (u : S), xp' E u → xp E u) (kk : ∀ u : S, post u → jr_J p l e R s m args below meth c A D cl nL (cells + mc) (slots + ms) (vx_MQ below (va_Qi postq (jr_B D cl tys wf A) A) (jr_X D cl tys wf A xp) args s MC MS A) (wf u) (pc + 3) lv rest) : jr_J p l e R s m args below meth c A D cl nL cells slots (vx_MQ below (va_Qi postq (jr_B D cl tys wf A) A) (jr_X D cl tys wf A xp) args s MC MS A) ws pc lv st0 := by
  intro H locs ls hP hD hS hl
  subst hst
  have hF : ∀ q, va_A ws H.size q → A q := jr_free hD hS C.2.2.2.2.2.2.1
  refine vx_callv (vx_runV (As := As) (rest := rest) ⟨C.1, C.2.1, C.2.2.1, C.2.2.2.1, C.2.2.2.2.1⟩ (hM H.size) cw ⟨jr_blindX, va_recv C.2.2.2.2.2.1 hP hc9 he, fun U hU hW => ⟨rfl, ⟨by rw [hU], by rw [hU]; exact hP, va_K.moved hW.alike C.2.2.2.2.2.1, hD.weaken (fun _ _ _ _ => trivial), C.2.2.2.2.2.2.2.warm hW⟩, hZ.at hS hF hU hW.alike, fun q hq => (hss q hq).warm hW⟩⟩ rfl hn hl.1 rfl (lv_room hro) hdg hcl) hS (fun q _ h => hF q h) hF (fun q _ h => hF q h) (fun E ce q9 u t H1 locs1 ht hvm _ hBX hz hk hS1 hce hcv hcl9 => ?_) (fun u t H1 locs1 ht hvm hw hB hz hk hS1 => ?_)
  · obtain ⟨hxe, hP1, hK1, hD1⟩ := hBX
    rw [ht] at hP1
    exact vx_out (fun x hx => (hnt x hx).elim) hlocks hce hcv hcl9 (fun t' ht' hvm' => ⟨u, trivial, ⟨kx E u hxe, by rw [ht']; exact hP1, va_K.moved hvm' C.2.2.2.2.2.1, hD1.weaken fun _ _ _ h => hF _ h⟩, hS1.F ht'⟩) hS1.2.2 hc hs
  · obtain ⟨hP1, hK1, hD1⟩ := hB
    rw [ht] at hP1
    exact kk u hw H1 locs1 ls hP1 (hD1.weaken fun _ _ _ h => hF _ h) hS1 hl
theorem jr_callXVvl (C : jr_C p s m args c cc nL own Ts D cl tys A) {post : S → Prop} {postq : Int64 → S → Prop} {y : MethodName} {wy : List Cond} {rm : Room} {bytes : ByteArray} {maxL index n : Nat} {ret : Option FieldType} {As st0 : List Value} {Cn : String} {T : u_T} {N ci q0 b : Nat} {fs : List Value} (hlocks : meth.locks = false) (hnt : ∀ x ∈ c.exceptionTable.toList, False) (hZ : jr_Z A s s.heap) (hss : ∀ q ∈ ss', vk_R q.1 q.2.1 q.2.2.1 q.2.2.2 s) (hM : jr_Tv l y wy rm (.ref b :: As) D cl tys ws ss' wf post xp' mc ms) (cw : CallW R s args own Cn index y bytes maxL ret wy rm mc ms n) (hdg : decode cc pc = .ok (.invokevirtual index, 3)) (hc9 : cl[ci]? = some (Cn, T, N)) (he : ws[q0]? = some (b, .inr (ci, fs))) (hn : As.length = n) (hst : st0 = As.reverse ++ .ref b :: rest) (hro : (rest.map fun v => v.category).sum ≤ 8) (hcl : cells + mc ≤ R.cells ∧ slots + ms ≤ R.slots) (hc : cells + mc ≤ MC) (hs : slots + ms ≤ MS) (kx : ∀ (E : String) (u : S), xp' E u → xp E u) (kk : ∀ u : S, post u → jr_J p l e R s m args below meth c A D cl nL (cells + mc) (slots + ms) (vx_MQ below (va_Ql postq (jr_B D cl tys wf A) A) (jr_X D cl tys wf A xp) args s MC MS A) (wf u) (pc + 3) lv rest) : jr_J p l e R s m args below meth c A D cl nL cells slots (vx_MQ below (va_Ql postq (jr_B D cl tys wf A) A) (jr_X D cl tys wf A xp) args s MC MS A) ws pc lv st0 := by
  intro H locs ls hP hD hS hl
  subst hst
  have hF : ∀ q, va_A ws H.size q → A q := jr_free hD hS C.2.2.2.2.2.2.1
  refine vx_callv (vx_runV (As := As) (rest := rest) ⟨C.1, C.2.1, C.2.2.1, C.2.2.2.1, C.2.2.2.2.1⟩ (hM H.size) cw ⟨jr_blindX, va_recv C.2.2.2.2.2.1 hP hc9 he, fun U hU hW => ⟨rfl, ⟨by rw [hU], by rw [hU]; exact hP, va_K.moved hW.alike C.2.2.2.2.2.1, hD.weaken (fun _ _ _ _ => trivial), C.2.2.2.2.2.2.2.warm hW⟩, hZ.at hS hF hU hW.alike, fun q hq => (hss q hq).warm hW⟩⟩ rfl hn hl.1 rfl (lv_room hro) hdg hcl) hS (fun q _ h => hF q h) hF (fun q _ h => hF q h) (fun E ce q9 u t H1 locs1 ht hvm _ hBX hz hk hS1 hce hcv hcl9 => ?_) (fun u t H1 locs1 ht hvm hw hB hz hk hS1 => ?_)
  · obtain ⟨hxe, hP1, hK1, hD1⟩ := hBX
    rw [ht] at hP1
    exact vx_out (fun x hx => (hnt x hx).elim) hlocks hce hcv hcl9 (fun t' ht' hvm' => ⟨u, trivial, ⟨kx E u hxe, by rw [ht']; exact hP1, va_K.moved hvm' C.2.2.2.2.2.1, hD1.weaken fun _ _ _ h => hF _ h⟩, hS1.F ht'⟩) hS1.2.2 hc hs
  · obtain ⟨hP1, hK1, hD1⟩ := hB
    rw [ht] at hP1
    exact kk u hw H1 locs1 ls hP1 (hD1.weaken fun _ _ _ h => hF _ h) hS1 hl
theorem jr_callXVvv (C : jr_C p s m args c cc nL own Ts D cl tys A) {post : S → Prop} {postq : S → Prop} {y : MethodName} {wy : List Cond} {rm : Room} {bytes : ByteArray} {maxL index n : Nat} {ret : Option FieldType} {As st0 : List Value} {Cn : String} {T : u_T} {N ci q0 b : Nat} {fs : List Value} (hlocks : meth.locks = false) (hnt : ∀ x ∈ c.exceptionTable.toList, False) (hZ : jr_Z A s s.heap) (hss : ∀ q ∈ ss', vk_R q.1 q.2.1 q.2.2.1 q.2.2.2 s) (hM : jr_Tv l y wy rm (.ref b :: As) D cl tys ws ss' wf post xp' mc ms) (cw : CallW R s args own Cn index y bytes maxL ret wy rm mc ms n) (hdg : decode cc pc = .ok (.invokevirtual index, 3)) (hc9 : cl[ci]? = some (Cn, T, N)) (he : ws[q0]? = some (b, .inr (ci, fs))) (hn : As.length = n) (hst : st0 = As.reverse ++ .ref b :: rest) (hro : (rest.map fun v => v.category).sum ≤ 8) (hcl : cells + mc ≤ R.cells ∧ slots + ms ≤ R.slots) (hc : cells + mc ≤ MC) (hs : slots + ms ≤ MS) (kx : ∀ (E : String) (u : S), xp' E u → xp E u) (kk : ∀ u : S, post u → jr_J p l e R s m args below meth c A D cl nL (cells + mc) (slots + ms) (vx_MQ below (va_Qv postq (jr_B D cl tys wf A) A) (jr_X D cl tys wf A xp) args s MC MS A) (wf u) (pc + 3) lv rest) : jr_J p l e R s m args below meth c A D cl nL cells slots (vx_MQ below (va_Qv postq (jr_B D cl tys wf A) A) (jr_X D cl tys wf A xp) args s MC MS A) ws pc lv st0 := by
  intro H locs ls hP hD hS hl
  subst hst
  have hF : ∀ q, va_A ws H.size q → A q := jr_free hD hS C.2.2.2.2.2.2.1
  refine vx_callv (vx_runV (As := As) (rest := rest) ⟨C.1, C.2.1, C.2.2.1, C.2.2.2.1, C.2.2.2.2.1⟩ (hM H.size) cw ⟨jr_blindX, va_recv C.2.2.2.2.2.1 hP hc9 he, fun U hU hW => ⟨rfl, ⟨by rw [hU], by rw [hU]; exact hP, va_K.moved hW.alike C.2.2.2.2.2.1, hD.weaken (fun _ _ _ _ => trivial), C.2.2.2.2.2.2.2.warm hW⟩, hZ.at hS hF hU hW.alike, fun q hq => (hss q hq).warm hW⟩⟩ rfl hn hl.1 rfl (lv_room hro) hdg hcl) hS (fun q _ h => hF q h) hF (fun q _ h => hF q h) (fun E ce q9 u t H1 locs1 ht hvm _ hBX hz hk hS1 hce hcv hcl9 => ?_) (fun u t H1 locs1 ht hvm hw hB hz hk hS1 => ?_)
  · obtain ⟨hxe, hP1, hK1, hD1⟩ := hBX
    rw [ht] at hP1
    exact vx_out (fun x hx => (hnt x hx).elim) hlocks hce hcv hcl9 (fun t' ht' hvm' => ⟨u, trivial, ⟨kx E u hxe, by rw [ht']; exact hP1, va_K.moved hvm' C.2.2.2.2.2.1, hD1.weaken fun _ _ _ h => hF _ h⟩, hS1.F ht'⟩) hS1.2.2 hc hs
  · obtain ⟨hP1, hK1, hD1⟩ := hB
    rw [ht] at hP1
    exact kk u hw H1 locs1 ls hP1 (hD1.weaken fun _ _ _ h => hF _ h) hS1 hl
theorem jr_callSv (C : jr_C p s m args c cc nL own Ts D cl tys A) {post : S → Prop} {y : MethodName} {wy : List Cond} {rm : Room} {bytes : ByteArray} {maxL index n : Nat} {ret : Option FieldType} {As st0 : List Value} (hM : jr_Mv l y wy rm As D cl tys ws wf post) (cw : CallB R s args own index y bytes maxL ret wy rm 0 0 n ∧ (Cond.static y).before args s = true) (hdg : decode cc pc = .ok (.invokestatic index, 3)) (hn : As.length = n) (hst : st0 = As.reverse ++ rest) (hro : (rest.map fun v => v.category).sum ≤ 8) (hcl : cells ≤ R.cells ∧ slots ≤ R.slots) (kk : ∀ u : S, post u → jr_J p l e R s m args below meth c A D cl nL cells slots Q (wf u) (pc + 3) lv rest) : jr_J p l e R s m args below meth c A D cl nL cells slots Q ws pc lv st0 := by
  intro H locs ls hP hD hS hl
  subst hst
  have hF : ∀ q, va_A ws H.size q → A q := jr_free hD hS C.2.2.2.2.2.2.1
  refine va_callv (va_runS (As := As) (rest := rest) ⟨C.1, C.2.1, C.2.2.1, C.2.2.2.1, C.2.2.2.2.1⟩ (hM H.size) cw ⟨jr_blind, fun U hU hW => ⟨rfl, by rw [hU], by rw [hU]; exact hP, va_K.moved hW.alike C.2.2.2.2.2.1, hD.weaken (fun _ _ _ _ => trivial), C.2.2.2.2.2.2.2.warm hW⟩⟩ rfl hn hl.1 rfl (lv_room hro) hdg hcl) hS (fun q _ h => hF q h) hF (fun u t H1 locs1 ht hvm hw hB hz hk hS1 => ?_)
  obtain ⟨hP1, hK1, hD1⟩ := hB
  rw [ht] at hP1
  exact kk u hw H1 locs1 ls hP1 (hD1.weaken fun _ _ _ h => hF _ h) hS1 hl
theorem jr_callXSvi (C : jr_C p s m args c cc nL own Ts D cl tys A) {post : S → Prop} {postq : Int32 → S → Prop} {y : MethodName} {wy : List Cond} {rm : Room} {bytes : ByteArray} {maxL index n : Nat} {ret : Option FieldType} {As st0 : List Value} (hlocks : meth.locks = false) (hnt : ∀ x ∈ c.exceptionTable.toList, False) (hZ : jr_Z A s s.heap) (hss : ∀ q ∈ ss', vk_R q.1 q.2.1 q.2.2.1 q.2.2.2 s) (hM : jr_Tv l y wy rm As D cl tys ws ss' wf post xp' mc ms) (cw : CallB R s args own index y bytes maxL ret wy rm mc ms n ∧ (Cond.static y).before args s = true) (hdg : decode cc pc = .ok (.invokestatic index, 3)) (hn : As.length = n) (hst : st0 = As.reverse ++ rest) (hro : (rest.map fun v => v.category).sum ≤ 8) (hcl : cells + mc ≤ R.cells ∧ slots + ms ≤ R.slots) (hc : cells + mc ≤ MC) (hs : slots + ms ≤ MS) (kx : ∀ (E : String) (u : S), xp' E u → xp E u) (kk : ∀ u : S, post u → jr_J p l e R s m args below meth c A D cl nL (cells + mc) (slots + ms) (vx_MQ below (va_Qi postq (jr_B D cl tys wf A) A) (jr_X D cl tys wf A xp) args s MC MS A) (wf u) (pc + 3) lv rest) : jr_J p l e R s m args below meth c A D cl nL cells slots (vx_MQ below (va_Qi postq (jr_B D cl tys wf A) A) (jr_X D cl tys wf A xp) args s MC MS A) ws pc lv st0 := by
  intro H locs ls hP hD hS hl
  subst hst
  have hF : ∀ q, va_A ws H.size q → A q := jr_free hD hS C.2.2.2.2.2.2.1
  refine vx_callv (vx_runS (As := As) (rest := rest) ⟨C.1, C.2.1, C.2.2.1, C.2.2.2.1, C.2.2.2.2.1⟩ (hM H.size) cw ⟨jr_blindX, fun U hU hW => ⟨rfl, ⟨by rw [hU], by rw [hU]; exact hP, va_K.moved hW.alike C.2.2.2.2.2.1, hD.weaken (fun _ _ _ _ => trivial), C.2.2.2.2.2.2.2.warm hW⟩, hZ.at hS hF hU hW.alike, fun q hq => (hss q hq).warm hW⟩⟩ rfl hn hl.1 rfl (lv_room hro) hdg hcl) hS (fun q _ h => hF q h) hF (fun q _ h => hF q h) (fun E ce q9 u t H1 locs1 ht hvm _ hBX hz hk hS1 hce hcv hcl9 => ?_) (fun u t H1 locs1 ht hvm hw hB hz hk hS1 => ?_)
  · obtain ⟨hxe, hP1, hK1, hD1⟩ := hBX
    rw [ht] at hP1
    exact vx_out (fun x hx => (hnt x hx).elim) hlocks hce hcv hcl9 (fun t' ht' hvm' => ⟨u, trivial, ⟨kx E u hxe, by rw [ht']; exact hP1, va_K.moved hvm' C.2.2.2.2.2.1, hD1.weaken fun _ _ _ h => hF _ h⟩, hS1.F ht'⟩) hS1.2.2 hc hs
  · obtain ⟨hP1, hK1, hD1⟩ := hB
    rw [ht] at hP1
    exact kk u hw H1 locs1 ls hP1 (hD1.weaken fun _ _ _ h => hF _ h) hS1 hl
theorem jr_callXSvl (C : jr_C p s m args c cc nL own Ts D cl tys A) {post : S → Prop} {postq : Int64 → S → Prop} {y : MethodName} {wy : List Cond} {rm : Room} {bytes : ByteArray} {maxL index n : Nat} {ret : Option FieldType} {As st0 : List Value} (hlocks : meth.locks = false) (hnt : ∀ x ∈ c.exceptionTable.toList, False) (hZ : jr_Z A s s.heap) (hss : ∀ q ∈ ss', vk_R q.1 q.2.1 q.2.2.1 q.2.2.2 s) (hM : jr_Tv l y wy rm As D cl tys ws ss' wf post xp' mc ms) (cw : CallB R s args own index y bytes maxL ret wy rm mc ms n ∧ (Cond.static y).before args s = true) (hdg : decode cc pc = .ok (.invokestatic index, 3)) (hn : As.length = n) (hst : st0 = As.reverse ++ rest) (hro : (rest.map fun v => v.category).sum ≤ 8) (hcl : cells + mc ≤ R.cells ∧ slots + ms ≤ R.slots) (hc : cells + mc ≤ MC) (hs : slots + ms ≤ MS) (kx : ∀ (E : String) (u : S), xp' E u → xp E u) (kk : ∀ u : S, post u → jr_J p l e R s m args below meth c A D cl nL (cells + mc) (slots + ms) (vx_MQ below (va_Ql postq (jr_B D cl tys wf A) A) (jr_X D cl tys wf A xp) args s MC MS A) (wf u) (pc + 3) lv rest) : jr_J p l e R s m args below meth c A D cl nL cells slots (vx_MQ below (va_Ql postq (jr_B D cl tys wf A) A) (jr_X D cl tys wf A xp) args s MC MS A) ws pc lv st0 := by
  intro H locs ls hP hD hS hl
  subst hst
  have hF : ∀ q, va_A ws H.size q → A q := jr_free hD hS C.2.2.2.2.2.2.1
  refine vx_callv (vx_runS (As := As) (rest := rest) ⟨C.1, C.2.1, C.2.2.1, C.2.2.2.1, C.2.2.2.2.1⟩ (hM H.size) cw ⟨jr_blindX, fun U hU hW => ⟨rfl, ⟨by rw [hU], by rw [hU]; exact hP, va_K.moved hW.alike C.2.2.2.2.2.1, hD.weaken (fun _ _ _ _ => trivial), C.2.2.2.2.2.2.2.warm hW⟩, hZ.at hS hF hU hW.alike, fun q hq => (hss q hq).warm hW⟩⟩ rfl hn hl.1 rfl (lv_room hro) hdg hcl) hS (fun q _ h => hF q h) hF (fun q _ h => hF q h) (fun E ce q9 u t H1 locs1 ht hvm _ hBX hz hk hS1 hce hcv hcl9 => ?_) (fun u t H1 locs1 ht hvm hw hB hz hk hS1 => ?_)
  · obtain ⟨hxe, hP1, hK1, hD1⟩ := hBX
    rw [ht] at hP1
    exact vx_out (fun x hx => (hnt x hx).elim) hlocks hce hcv hcl9 (fun t' ht' hvm' => ⟨u, trivial, ⟨kx E u hxe, by rw [ht']; exact hP1, va_K.moved hvm' C.2.2.2.2.2.1, hD1.weaken fun _ _ _ h => hF _ h⟩, hS1.F ht'⟩) hS1.2.2 hc hs
  · obtain ⟨hP1, hK1, hD1⟩ := hB
    rw [ht] at hP1
    exact kk u hw H1 locs1 ls hP1 (hD1.weaken fun _ _ _ h => hF _ h) hS1 hl
theorem jr_callXSvv (C : jr_C p s m args c cc nL own Ts D cl tys A) {post : S → Prop} {postq : S → Prop} {y : MethodName} {wy : List Cond} {rm : Room} {bytes : ByteArray} {maxL index n : Nat} {ret : Option FieldType} {As st0 : List Value} (hlocks : meth.locks = false) (hnt : ∀ x ∈ c.exceptionTable.toList, False) (hZ : jr_Z A s s.heap) (hss : ∀ q ∈ ss', vk_R q.1 q.2.1 q.2.2.1 q.2.2.2 s) (hM : jr_Tv l y wy rm As D cl tys ws ss' wf post xp' mc ms) (cw : CallB R s args own index y bytes maxL ret wy rm mc ms n ∧ (Cond.static y).before args s = true) (hdg : decode cc pc = .ok (.invokestatic index, 3)) (hn : As.length = n) (hst : st0 = As.reverse ++ rest) (hro : (rest.map fun v => v.category).sum ≤ 8) (hcl : cells + mc ≤ R.cells ∧ slots + ms ≤ R.slots) (hc : cells + mc ≤ MC) (hs : slots + ms ≤ MS) (kx : ∀ (E : String) (u : S), xp' E u → xp E u) (kk : ∀ u : S, post u → jr_J p l e R s m args below meth c A D cl nL (cells + mc) (slots + ms) (vx_MQ below (va_Qv postq (jr_B D cl tys wf A) A) (jr_X D cl tys wf A xp) args s MC MS A) (wf u) (pc + 3) lv rest) : jr_J p l e R s m args below meth c A D cl nL cells slots (vx_MQ below (va_Qv postq (jr_B D cl tys wf A) A) (jr_X D cl tys wf A xp) args s MC MS A) ws pc lv st0 := by
  intro H locs ls hP hD hS hl
  subst hst
  have hF : ∀ q, va_A ws H.size q → A q := jr_free hD hS C.2.2.2.2.2.2.1
  refine vx_callv (vx_runS (As := As) (rest := rest) ⟨C.1, C.2.1, C.2.2.1, C.2.2.2.1, C.2.2.2.2.1⟩ (hM H.size) cw ⟨jr_blindX, fun U hU hW => ⟨rfl, ⟨by rw [hU], by rw [hU]; exact hP, va_K.moved hW.alike C.2.2.2.2.2.1, hD.weaken (fun _ _ _ _ => trivial), C.2.2.2.2.2.2.2.warm hW⟩, hZ.at hS hF hU hW.alike, fun q hq => (hss q hq).warm hW⟩⟩ rfl hn hl.1 rfl (lv_room hro) hdg hcl) hS (fun q _ h => hF q h) hF (fun q _ h => hF q h) (fun E ce q9 u t H1 locs1 ht hvm _ hBX hz hk hS1 hce hcv hcl9 => ?_) (fun u t H1 locs1 ht hvm hw hB hz hk hS1 => ?_)
  · obtain ⟨hxe, hP1, hK1, hD1⟩ := hBX
    rw [ht] at hP1
    exact vx_out (fun x hx => (hnt x hx).elim) hlocks hce hcv hcl9 (fun t' ht' hvm' => ⟨u, trivial, ⟨kx E u hxe, by rw [ht']; exact hP1, va_K.moved hvm' C.2.2.2.2.2.1, hD1.weaken fun _ _ _ h => hF _ h⟩, hS1.F ht'⟩) hS1.2.2 hc hs
  · obtain ⟨hP1, hK1, hD1⟩ := hB
    rw [ht] at hP1
    exact kk u hw H1 locs1 ls hP1 (hD1.weaken fun _ _ _ h => hF _ h) hS1 hl
theorem jr_callVNv (C : jr_C p s m args c cc nL own Ts D cl tys A) {post : S → Prop} {y : MethodName} {wy : List Cond} {rm : Room} {bytes : ByteArray} {maxL index n : Nat} {ret : Option FieldType} {host : String} {As st0 : List Value} {Cn : String} {T : u_T} {N ci q0 b : Nat} {fs : List Value} (hM : jr_Mv l y wy rm (.ref b :: As) D cl tys ws wf post) (cw : va_CN R s args own index y host bytes maxL ret wy rm 0 0 n ∧ (Cond.instanceMethod y).before args s = true ∧ (Cond.selects Cn y y).before args s = true) (hdg : decode cc pc = .ok (.invokevirtual index, 3)) (hc9 : cl[ci]? = some (Cn, T, N)) (he : ws[q0]? = some (b, .inr (ci, fs))) (hn : As.length = n) (hst : st0 = As.reverse ++ .ref b :: rest) (hro : (rest.map fun v => v.category).sum ≤ 8) (hcl : cells ≤ R.cells ∧ slots ≤ R.slots) (kk : ∀ u : S, post u → jr_J p l e R s m args below meth c A D cl nL cells slots Q (wf u) (pc + 3) lv rest) : jr_J p l e R s m args below meth c A D cl nL cells slots Q ws pc lv st0 := by
  intro H locs ls hP hD hS hl
  subst hst
  have hF : ∀ q, va_A ws H.size q → A q := jr_free hD hS C.2.2.2.2.2.2.1
  refine va_callv (va_runVN (As := As) (rest := rest) ⟨C.1, C.2.1, C.2.2.1, C.2.2.2.1, C.2.2.2.2.1⟩ (hM H.size) cw ⟨jr_blind, va_recv C.2.2.2.2.2.1 hP hc9 he, fun U hU hW => ⟨rfl, by rw [hU], by rw [hU]; exact hP, va_K.moved hW.alike C.2.2.2.2.2.1, hD.weaken (fun _ _ _ _ => trivial), C.2.2.2.2.2.2.2.warm hW⟩⟩ rfl hn hl.1 rfl (lv_room hro) hdg hcl) hS (fun q _ h => hF q h) hF (fun u t H1 locs1 ht hvm hw hB hz hk hS1 => ?_)
  obtain ⟨hP1, hK1, hD1⟩ := hB
  rw [ht] at hP1
  exact kk u hw H1 locs1 ls hP1 (hD1.weaken fun _ _ _ h => hF _ h) hS1 hl
theorem jr_callSNv (C : jr_C p s m args c cc nL own Ts D cl tys A) {post : S → Prop} {y : MethodName} {wy : List Cond} {rm : Room} {bytes : ByteArray} {maxL index n : Nat} {ret : Option FieldType} {host : String} {As st0 : List Value} (hM : jr_Mv l y wy rm As D cl tys ws wf post) (cw : va_CN R s args own index y host bytes maxL ret wy rm 0 0 n ∧ (Cond.static y).before args s = true ∧ True) (hdg : decode cc pc = .ok (.invokestatic index, 3)) (hn : As.length = n) (hst : st0 = As.reverse ++ rest) (hro : (rest.map fun v => v.category).sum ≤ 8) (hcl : cells ≤ R.cells ∧ slots ≤ R.slots) (kk : ∀ u : S, post u → jr_J p l e R s m args below meth c A D cl nL cells slots Q (wf u) (pc + 3) lv rest) : jr_J p l e R s m args below meth c A D cl nL cells slots Q ws pc lv st0 := by
  intro H locs ls hP hD hS hl
  subst hst
  have hF : ∀ q, va_A ws H.size q → A q := jr_free hD hS C.2.2.2.2.2.2.1
  refine va_callv (va_runSN (As := As) (rest := rest) ⟨C.1, C.2.1, C.2.2.1, C.2.2.2.1, C.2.2.2.2.1⟩ (hM H.size) cw ⟨jr_blind, fun U hU hW => ⟨rfl, by rw [hU], by rw [hU]; exact hP, va_K.moved hW.alike C.2.2.2.2.2.1, hD.weaken (fun _ _ _ _ => trivial), C.2.2.2.2.2.2.2.warm hW⟩⟩ rfl hn hl.1 rfl (lv_room hro) hdg hcl) hS (fun q _ h => hF q h) hF (fun u t H1 locs1 ht hvm hw hB hz hk hS1 => ?_)
  obtain ⟨hP1, hK1, hD1⟩ := hB
  rw [ht] at hP1
  exact kk u hw H1 locs1 ls hP1 (hD1.weaken fun _ _ _ h => hF _ h) hS1 hl
end JR2
section JR3
variable {p : Program} {l : Launch} {e : Env} {R : Room} {s : State} {m : MethodId} {args : Array Value} {below : List Frame} {meth : Method} {c : Code} {A : Nat → Prop} {D : va_G} {cl : List vw_C} {nL cells slots : Nat} {Q : State → Prop} {ws : va_W} {pc : Nat} {lv : List (Nat × Value)} {rest : List Value}
variable {cc : ByteArray} {own : String} {Ts : List Cond} {tys : List (ClassId × FieldType)} {S : Type} {wf : S → va_W} {xp : String → S → Prop} {MC MS : Nat} {Qc : Array Value → State → Outcome → State → Prop}
theorem jr_tblIn (C : jr_C p s m args c cc nL own Ts D cl tys A) {dflt lo hi : Int} {offs : Array Int} {len : Nat} {x : Int32} {off : Int} {tgt : Nat} (hdg : decode cc pc = .ok (.tableswitch dflt lo hi offs, len)) (h1 : ¬ x.toInt < lo) (h2 : ¬ hi < x.toInt) (ho : offs[(x.toInt - lo).toNat]? = some off) (ht : (pc : Int) + off = (tgt : Int)) (kk : jr_J p l e R s m args below meth c A D cl nL cells slots Q ws tgt lv rest) : jr_J p l e R s m args below meth c A D cl nL cells slots Q ws pc lv (.int x :: rest) :=
  fun H locs ls hP hD hS hl => lv_tableIn C.1 C.2.1 hdg h1 h2 ho ht (kk H locs ls hP hD hS hl)
theorem jr_tblOut (C : jr_C p s m args c cc nL own Ts D cl tys A) {dflt lo hi : Int} {offs : Array Int} {len : Nat} {x : Int32} {tgt : Nat} (hdg : decode cc pc = .ok (.tableswitch dflt lo hi offs, len)) (h : x.toInt < lo ∨ hi < x.toInt) (ht : (pc : Int) + dflt = (tgt : Int)) (kk : jr_J p l e R s m args below meth c A D cl nL cells slots Q ws tgt lv rest) : jr_J p l e R s m args below meth c A D cl nL cells slots Q ws pc lv (.int x :: rest) :=
  fun H locs ls hP hD hS hl => lv_tableOut C.1 C.2.1 hdg h ht (kk H locs ls hP hD hS hl)
/-- 'throw new E("text")' -/
theorem jr_throwS (C : jr_C p s m args c cc nL own Ts D cl tys A) (hl0 : l.stackTraces = false) (hZ : jr_Z A s s.heap) (hlocks : meth.locks = false) (hnt : ∀ x ∈ c.exceptionTable.toList, False) {cls text : String} {names : List String} {ik is ic sa : Nat} {u : S} (hstr : vk_R own is text sa s) (hcls : Bundle.fit cls = true) (hnames : ∀ n ∈ names, Bundle.fit n = true)
    (hk : (Cond.classLink own ik cls).before args s = true) (hini : (Cond.initialized cls).before args s = true) (hat : ∀ w ∈ vx_atS own ic cls names, w.before args s = true) (hgood : ∀ w ∈ Cond.classLink own ik cls :: Cond.initialized cls :: vx_atS own ic cls names, vx_ot w = true)
    (d0 : decode cc pc = .ok (.new ik, 3)) (d3 : decode cc (pc + 3) = .ok (.dup, 1)) (d4 : decode cc (pc + 4) = .ok (.ldc is, 2)) (d6 : decode cc (pc + 6) = .ok (.invokespecial ic, 3)) (d9 : decode cc (pc + 9) = .ok (.athrow, 1))
    (hRframes : names.length + 3 < R.frames) (hRlocals : (rest.map fun v => v.category).sum + (13 * (names.length + 1) + 43) ≤ R.locals) (hRcells : cells + 1 ≤ R.cells) (hRslots : slots + 6 ≤ R.slots) (hc : cells + 1 ≤ MC) (hs : slots + 6 ≤ MS) (hxp : xp cls u) (hw : ws = wf u) : jr_J p l e R s m args below meth c A D cl nL cells slots (vx_MQ below Qc (jr_X D cl tys wf A xp) args s MC MS A) ws pc lv rest := by
  subst hw
  intro H locs ls hP hD hS hl
  exact vx_throwS C.1 C.2.1 hl0 C.2.2.2.1 hcls hnames hk hini hstr hat hgood hZ.1 hZ.2 hS (by rw [C.2.2.1]; exact hl.1) d0 d3 d4 d6 d9 (fun x hx => (hnt x hx).elim) hRframes hRlocals hRcells hRslots hlocks (fun t hvm hsz hk9 => ⟨u, trivial, ⟨hxp, hP.kept (fun k q hq => hk9 q.1 ((hP k q hq).lt)), va_K.moved hvm C.2.2.2.2.2.1, hD⟩, ⟨Nat.le_trans hS.1 hsz, fun q h1 h2 => (hk9 q (Nat.lt_of_lt_of_le h1 hS.1)).trans (hS.2.1 q h1 h2)⟩⟩) hS.2.2 hc hs
end JR3
theorem jr_sw5 {x : Int32} (h0 : ¬ x = (0 : Int32)) (h1 : ¬ x = (1 : Int32)) (h2 : ¬ x = (2 : Int32)) (h3 : ¬ x = (3 : Int32)) (h4 : ¬ x = (4 : Int32)) : x.toInt < 0 ∨ 4 < x.toInt := by
  have e0 : x.toInt ≠ 0 := fun q => h0 (Int32.toInt_inj.mp (q.trans (by decide)))
  have e1 : x.toInt ≠ 1 := fun q => h1 (Int32.toInt_inj.mp (q.trans (by decide)))
  have e2 : x.toInt ≠ 2 := fun q => h2 (Int32.toInt_inj.mp (q.trans (by decide)))
  have e3 : x.toInt ≠ 3 := fun q => h3 (Int32.toInt_inj.mp (q.trans (by decide)))
  have e4 : x.toInt ≠ 4 := fun q => h4 (Int32.toInt_inj.mp (q.trans (by decide)))
  omega
/-- the ints of a world: of the cell at a place, the int at a place -/
abbrev jS : Type := Nat → Nat → Int32
def jq (st : jS) (k j : Nat) (x : Int32) : jS := fun q => if q = k then upd (st k) j x else st q
def jw (N : Nat) (ad : Nat → Nat) (G : Nat → (Nat → Int32) → va_E) (st : jS) (fr : va_W) : va_W := (List.range N).map (fun k => (ad k, G k (st k))) ++ fr
theorem jw_at {N : Nat} {ad : Nat → Nat} {G : Nat → (Nat → Int32) → va_E} {st : jS} {fr : va_W} {k : Nat} (h : k < N) {e : va_E} (he : G k (st k) = e) : (jw N ad G st fr)[k]? = some (ad k, e) := by
  subst he
  unfold jw
  rw [List.getElem?_append_left (by simp; exact h), List.getElem?_map, List.getElem?_range h]
  rfl
theorem jw_put {N : Nat} {ad : Nat → Nat} {G : Nat → (Nat → Int32) → va_E} {st : jS} {fr : va_W} {k j : Nat} {x : Int32} (h : k < N) {e : va_E} (he : G k (upd (st k) j x) = e) : (jw N ad G st fr).set k (ad k, e) = jw N ad G (jq st k j x) fr := by
  subst he
  unfold jw
  have hl : k < ((List.range N).map (fun k => (ad k, G k (st k)))).length := by simp; exact h
  rw [List.set_append, if_pos hl]
  congr 1
  apply List.ext_getElem?
  intro i
  rw [List.getElem?_set, List.getElem?_map, List.getElem?_map]
  by_cases hki : k = i
  · subst hki
    rw [if_pos rfl, if_pos hl, List.getElem?_range h]
    simp [jq]
  · rw [if_neg hki]
    by_cases hi : i < N
    · rw [List.getElem?_range hi]
      have hik : ¬ i = k := fun q => hki q.symm
      simp [jq, hik]
    · rw [List.getElem?_eq_none (by simp; omega)]
      rfl
theorem jq_same {st : jS} {k j : Nat} {x : Int32} : jq st k j x k = upd (st k) j x := by unfold jq; rw [if_pos rfl]
theorem jq_ne {st : jS} {k j q : Nat} {x : Int32} (h : q ≠ k) : jq st k j x q = st q := by unfold jq; rw [if_neg h]
theorem vi_lt {i : Int32} {n : Nat} (h : vp_in i n) : i.toNatClampNeg < n := Nat.lt_of_not_le fun q => h (Or.inr q)
/-- the words of a throw: those that are handed on, and those that aren't -/
theorem jr_hat {p : Program} {s : State} {m : MethodId} {args : Array Value} {c : Code} {cc : ByteArray} {nL : Nat} {own : String} {w0 : Cond} {D : va_G} {cl : List vw_C} {tys : List (ClassId × FieldType)} {A : Nat → Prop} {L : List Cond} (h : ∀ w ∈ L, w ∈ tw ∨ w ∈ jnw) (C : jr_C p s m args c cc nL own (w0 :: tw) D cl tys A) : ∀ w ∈ L, w.before args s = true :=
  fun w hw => (h w hw).elim (fun q => C.2.2.2.2.1 w (List.mem_cons_of_mem _ q)) (fun q => va_Nw.use (jnw_on w q) (C.2.2.2.2.2.2.2 w q))
