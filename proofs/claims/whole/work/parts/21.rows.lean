/-! THE CALCULUS: one tuple o holds what a walk stands on; 'yW o S pc lv st': from every heap that holds the pure state S, with locals lv and stack st, the walk at pc comes to its end -/
abbrev YO : Type := Program × Launch × Env × Room × State × MethodId × Array Value × List Frame × Method × Code × Nat × Nat × (State → Prop) × YG
abbrev YO.p (o : YO) : Program := o.1
abbrev YO.l (o : YO) : Launch := o.2.1
abbrev YO.e (o : YO) : Env := o.2.2.1
abbrev YO.R (o : YO) : Room := o.2.2.2.1
abbrev YO.s (o : YO) : State := o.2.2.2.2.1
abbrev YO.m (o : YO) : MethodId := o.2.2.2.2.2.1
abbrev YO.args (o : YO) : Array Value := o.2.2.2.2.2.2.1
abbrev YO.below (o : YO) : List Frame := o.2.2.2.2.2.2.2.1
abbrev YO.meth (o : YO) : Method := o.2.2.2.2.2.2.2.2.1
abbrev YO.c (o : YO) : Code := o.2.2.2.2.2.2.2.2.2.1
abbrev YO.cells (o : YO) : Nat := o.2.2.2.2.2.2.2.2.2.2.1
abbrev YO.slots (o : YO) : Nat := o.2.2.2.2.2.2.2.2.2.2.2.1
abbrev YO.Q (o : YO) : State → Prop := o.2.2.2.2.2.2.2.2.2.2.2.2.1
abbrev YO.G (o : YO) : YG := o.2.2.2.2.2.2.2.2.2.2.2.2.2
/-- a heap that holds the state -/
def yH (o : YO) (S : YS) (H : Heap) (locs : List Loc) : Prop := va_P o.G.D ycl (yw o.G S) H ∧ va_S (yA o.G.B) o.s.heap H locs
def yB (o : YO) (b : ByteArray) (own : String) : Prop := o.p.tables.exec = Jvm.exec ∧ o.c.code = b ∧ o.s.vm.findClass own = some o.m.cls ∧ o.meth.locks = false ∧ yF o.G o.s
def yW (o : YO) (S : YS) (pc : Nat) (lv : List (Nat × Value)) (st : List Value) : Prop :=
  ∀ (ls : Array Slot) (H : Heap) (locs : List Loc), lv_has ls o.c.maxLocals lv → yH o S H locs → W o.p o.l o.e o.R o.s o.m o.args o.below o.meth o.c H locs o.cells o.slots o.Q (F0 o.m pc ls st)
section YR
variable {o : YO} {b : ByteArray} {own : String} {S : YS} {pc pc' : Nat} {lv : List (Nat × Value)} {st : List Value}

theorem y_iconst {n : Int} {v : Int32} (hB : yB o b own) (hd : decode b pc = .ok (.iconst n, 1)) (hp : pc + 1 = pc') (hv : Int32.ofInt n = v) (kk : yW o S pc' lv (.int v :: st)) : yW o S pc lv (st) := by
  subst hp
  subst hv
  exact fun ls H locs hl hH => lv_iconst hB.1 hB.2.1 hd rfl (kk ls H locs hl hH)
theorem y_bipush {n : Int} {v : Int32} (hB : yB o b own) (hd : decode b pc = .ok (.bipush n, 2)) (hp : pc + 2 = pc') (hv : (Int8.ofInt n).toInt32 = v) (kk : yW o S pc' lv (.int v :: st)) : yW o S pc lv (st) := by
  subst hp
  subst hv
  exact fun ls H locs hl hH => lv_bipush hB.1 hB.2.1 hd rfl (kk ls H locs hl hH)
theorem y_sipush {n : Int} {v : Int32} (hB : yB o b own) (hd : decode b pc = .ok (.sipush n, 3)) (hp : pc + 3 = pc') (hv : (Int16.ofInt n).toInt32 = v) (kk : yW o S pc' lv (.int v :: st)) : yW o S pc lv (st) := by
  subst hp
  subst hv
  exact fun ls H locs hl hH => lv_sipush hB.1 hB.2.1 hd rfl (kk ls H locs hl hH)
theorem y_lconst {n : Fin 2} {v : Int64} (hB : yB o b own) (hd : decode b pc = .ok (.lconst n, 1)) (hp : pc + 1 = pc') (hv : Int64.ofNat (n : Nat) = v) (kk : yW o S pc' lv (.long v :: st)) : yW o S pc lv (st) := by
  subst hp
  subst hv
  exact fun ls H locs hl hH => lv_lconst hB.1 hB.2.1 hd rfl (kk ls H locs hl hH)
theorem y_ldc2 {ix : Nat} {v : Int64} (hB : yB o b own) (hd : decode b pc = .ok (.ldc2_w ix, 3)) (hp : pc + 3 = pc') (hc : Jvm.Cond.constantLong own ix v ∈ yL) (kk : yW o S pc' lv (.long v :: st)) : yW o S pc lv (st) := by
  subst hp
  exact fun ls H locs hl hH => lv_ldc2 hB.1 hB.2.1 hB.2.2.1 (hB.2.2.2.2.2.1 _ hc _) hd (kk ls H locs hl hH)
theorem y_ldc {ix : Nat} {v : Int32} (hB : yB o b own) (hd : decode b pc = .ok (.ldc ix, 2)) (hp : pc + 2 = pc') (hc : Jvm.Cond.constant own ix v ∈ yL) (kk : yW o S pc' lv (.int v :: st)) : yW o S pc lv (st) := by
  subst hp
  exact fun ls H locs hl hH => lv_ldc hB.1 hB.2.1 hB.2.2.1 (hB.2.2.2.2.2.1 _ hc _) hd (kk ls H locs hl hH)
theorem y_iload_n {k : Fin 4} {i : Nat} {x : Int32} (hB : yB o b own) (hd : decode b pc = .ok (.iload_n k, 1)) (hp : pc + 1 = pc') (hi : (k : Nat) = i) (q : Nat) (hq : lv[q]? = some (i, .int x)) (kk : yW o S pc' lv (.int x :: st)) : yW o S pc lv (st) := by
  subst hp
  exact fun ls H locs hl hH => lv_iload_n hB.1 hB.2.1 hd hi (lv_at hl q hq) (kk ls H locs hl hH)
theorem y_iload {i : Nat} {x : Int32} (hB : yB o b own) (hd : decode b pc = .ok (.iload i, 2)) (hp : pc + 2 = pc') (q : Nat) (hq : lv[q]? = some (i, .int x)) (kk : yW o S pc' lv (.int x :: st)) : yW o S pc lv (st) := by
  subst hp
  exact fun ls H locs hl hH => lv_iload hB.1 hB.2.1 hd (lv_at hl q hq) (kk ls H locs hl hH)
theorem y_istore_n {k : Fin 4} {i n : Nat} {x : Int32} {lv' : List (Nat × Value)} (hB : yB o b own) (hm : o.c.maxLocals = n) (hd : decode b pc = .ok (.istore_n k, 1)) (hp : pc + 1 = pc') (hi : (k : Nat) = i) (hn : i < n) (hl' : (i, Value.int x) :: lv.filter (fun q => !(q.1 == i) && !(q.1 + 1 == i && q.2.category == 2)) = lv') (kk : yW o S pc' lv' st) : yW o S pc lv (.int x :: st) := by
  subst hp
  subst hm
  exact fun ls H locs hl hH => lv_istore_n hB.1 hB.2.1 hd hi hl hn hl' (fun ls' h' => kk ls' H locs h' hH)
theorem y_istore {i n : Nat} {x : Int32} {lv' : List (Nat × Value)} (hB : yB o b own) (hm : o.c.maxLocals = n) (hd : decode b pc = .ok (.istore i, 2)) (hp : pc + 2 = pc') (hn : i < n) (hl' : (i, Value.int x) :: lv.filter (fun q => !(q.1 == i) && !(q.1 + 1 == i && q.2.category == 2)) = lv') (kk : yW o S pc' lv' st) : yW o S pc lv (.int x :: st) := by
  subst hp
  subst hm
  exact fun ls H locs hl hH => lv_istore hB.1 hB.2.1 hd hl hn hl' (fun ls' h' => kk ls' H locs h' hH)
theorem y_lload_n {k : Fin 4} {i : Nat} {x : Int64} (hB : yB o b own) (hd : decode b pc = .ok (.lload_n k, 1)) (hp : pc + 1 = pc') (hi : (k : Nat) = i) (q : Nat) (hq : lv[q]? = some (i, .long x)) (kk : yW o S pc' lv (.long x :: st)) : yW o S pc lv (st) := by
  subst hp
  exact fun ls H locs hl hH => lv_lload_n hB.1 hB.2.1 hd hi (lv_at hl q hq) (kk ls H locs hl hH)
theorem y_lload {i : Nat} {x : Int64} (hB : yB o b own) (hd : decode b pc = .ok (.lload i, 2)) (hp : pc + 2 = pc') (q : Nat) (hq : lv[q]? = some (i, .long x)) (kk : yW o S pc' lv (.long x :: st)) : yW o S pc lv (st) := by
  subst hp
  exact fun ls H locs hl hH => lv_lload hB.1 hB.2.1 hd (lv_at hl q hq) (kk ls H locs hl hH)
theorem y_lstore_n {k : Fin 4} {i n : Nat} {x : Int64} {lv' : List (Nat × Value)} (hB : yB o b own) (hm : o.c.maxLocals = n) (hd : decode b pc = .ok (.lstore_n k, 1)) (hp : pc + 1 = pc') (hi : (k : Nat) = i) (hn : i + 1 < n) (hl' : (i, Value.long x) :: lv.filter (fun q => !(q.1 == i) && (!(q.1 == i + 1) && !(q.1 + 1 == i && q.2.category == 2))) = lv') (kk : yW o S pc' lv' st) : yW o S pc lv (.long x :: st) := by
  subst hp
  subst hm
  exact fun ls H locs hl hH => lv_lstore_n hB.1 hB.2.1 hd hi hl hn hl' (fun ls' h' => kk ls' H locs h' hH)
theorem y_lstore {i n : Nat} {x : Int64} {lv' : List (Nat × Value)} (hB : yB o b own) (hm : o.c.maxLocals = n) (hd : decode b pc = .ok (.lstore i, 2)) (hp : pc + 2 = pc') (hn : i + 1 < n) (hl' : (i, Value.long x) :: lv.filter (fun q => !(q.1 == i) && (!(q.1 == i + 1) && !(q.1 + 1 == i && q.2.category == 2))) = lv') (kk : yW o S pc' lv' st) : yW o S pc lv (.long x :: st) := by
  subst hp
  subst hm
  exact fun ls H locs hl hH => lv_lstore hB.1 hB.2.1 hd hl hn hl' (fun ls' h' => kk ls' H locs h' hH)
theorem y_aload_n {k : Fin 4} {i : Nat} {x : Nat} (hB : yB o b own) (hd : decode b pc = .ok (.aload_n k, 1)) (hp : pc + 1 = pc') (hi : (k : Nat) = i) (q : Nat) (hq : lv[q]? = some (i, .ref x)) (kk : yW o S pc' lv (.ref x :: st)) : yW o S pc lv (st) := by
  subst hp
  exact fun ls H locs hl hH => lv_aload_n hB.1 hB.2.1 hd hi (lv_at hl q hq) (kk ls H locs hl hH)
theorem y_aload {i : Nat} {x : Nat} (hB : yB o b own) (hd : decode b pc = .ok (.aload i, 2)) (hp : pc + 2 = pc') (q : Nat) (hq : lv[q]? = some (i, .ref x)) (kk : yW o S pc' lv (.ref x :: st)) : yW o S pc lv (st) := by
  subst hp
  exact fun ls H locs hl hH => lv_aload hB.1 hB.2.1 hd (lv_at hl q hq) (kk ls H locs hl hH)
theorem y_astore_n {k : Fin 4} {i n : Nat} {x : Nat} {lv' : List (Nat × Value)} (hB : yB o b own) (hm : o.c.maxLocals = n) (hd : decode b pc = .ok (.astore_n k, 1)) (hp : pc + 1 = pc') (hi : (k : Nat) = i) (hn : i < n) (hl' : (i, Value.ref x) :: lv.filter (fun q => !(q.1 == i) && !(q.1 + 1 == i && q.2.category == 2)) = lv') (kk : yW o S pc' lv' st) : yW o S pc lv (.ref x :: st) := by
  subst hp
  subst hm
  exact fun ls H locs hl hH => lv_astore_n hB.1 hB.2.1 hd hi hl hn hl' (fun ls' h' => kk ls' H locs h' hH)
theorem y_astore {i n : Nat} {x : Nat} {lv' : List (Nat × Value)} (hB : yB o b own) (hm : o.c.maxLocals = n) (hd : decode b pc = .ok (.astore i, 2)) (hp : pc + 2 = pc') (hn : i < n) (hl' : (i, Value.ref x) :: lv.filter (fun q => !(q.1 == i) && !(q.1 + 1 == i && q.2.category == 2)) = lv') (kk : yW o S pc' lv' st) : yW o S pc lv (.ref x :: st) := by
  subst hp
  subst hm
  exact fun ls H locs hl hH => lv_astore hB.1 hB.2.1 hd hl hn hl' (fun ls' h' => kk ls' H locs h' hH)
theorem y_iinc {i n q : Nat} {x v : Int32} {z : Int} {lv' : List (Nat × Value)} (hB : yB o b own) (hm : o.c.maxLocals = n) (hd : decode b pc = .ok (.iinc i z, 3)) (hp : pc + 3 = pc') (hq : lv[q]? = some (i, .int x)) (hv : x + Int32.ofInt z = v) (hn : i < n) (hl' : (i, Value.int v) :: lv.filter (fun q => !(q.1 == i) && !(q.1 + 1 == i && q.2.category == 2)) = lv') (kk : yW o S pc' lv' st) : yW o S pc lv st := by
  subst hp
  subst hm
  exact fun ls H locs hl hH => lv_iinc hB.1 hB.2.1 hd hl hq hv hn hl' (fun ls' h' => kk ls' H locs h' hH)
theorem y_iadd {x y v : Int32} (hB : yB o b own) (hd : decode b pc = .ok (.iadd, 1)) (hp : pc + 1 = pc') (hv : x + y = v) (kk : yW o S pc' lv (.int v :: st)) : yW o S pc lv (.int y :: .int x :: st) := by
  subst hp
  subst hv
  exact fun ls H locs hl hH => lv_iadd hB.1 hB.2.1 hd (kk ls H locs hl hH)
theorem y_isub {x y v : Int32} (hB : yB o b own) (hd : decode b pc = .ok (.isub, 1)) (hp : pc + 1 = pc') (hv : x - y = v) (kk : yW o S pc' lv (.int v :: st)) : yW o S pc lv (.int y :: .int x :: st) := by
  subst hp
  subst hv
  exact fun ls H locs hl hH => lv_isub hB.1 hB.2.1 hd (kk ls H locs hl hH)
theorem y_imul {x y v : Int32} (hB : yB o b own) (hd : decode b pc = .ok (.imul, 1)) (hp : pc + 1 = pc') (hv : x * y = v) (kk : yW o S pc' lv (.int v :: st)) : yW o S pc lv (.int y :: .int x :: st) := by
  subst hp
  subst hv
  exact fun ls H locs hl hH => lv_imul hB.1 hB.2.1 hd (kk ls H locs hl hH)
theorem y_iand {x y v : Int32} (hB : yB o b own) (hd : decode b pc = .ok (.iand, 1)) (hp : pc + 1 = pc') (hv : x &&& y = v) (kk : yW o S pc' lv (.int v :: st)) : yW o S pc lv (.int y :: .int x :: st) := by
  subst hp
  subst hv
  exact fun ls H locs hl hH => lv_iand hB.1 hB.2.1 hd (kk ls H locs hl hH)
theorem y_ior {x y v : Int32} (hB : yB o b own) (hd : decode b pc = .ok (.ior, 1)) (hp : pc + 1 = pc') (hv : x ||| y = v) (kk : yW o S pc' lv (.int v :: st)) : yW o S pc lv (.int y :: .int x :: st) := by
  subst hp
  subst hv
  exact fun ls H locs hl hH => lv_ior hB.1 hB.2.1 hd (kk ls H locs hl hH)
theorem y_ixor {x y v : Int32} (hB : yB o b own) (hd : decode b pc = .ok (.ixor, 1)) (hp : pc + 1 = pc') (hv : x ^^^ y = v) (kk : yW o S pc' lv (.int v :: st)) : yW o S pc lv (.int y :: .int x :: st) := by
  subst hp
  subst hv
  exact fun ls H locs hl hH => lv_ixor hB.1 hB.2.1 hd (kk ls H locs hl hH)
theorem y_ishl {x y v : Int32} (hB : yB o b own) (hd : decode b pc = .ok (.ishl, 1)) (hp : pc + 1 = pc') (hv : x <<< (y &&& 31) = v) (kk : yW o S pc' lv (.int v :: st)) : yW o S pc lv (.int y :: .int x :: st) := by
  subst hp
  subst hv
  exact fun ls H locs hl hH => lv_ishl hB.1 hB.2.1 hd (kk ls H locs hl hH)
theorem y_ishr {x y v : Int32} (hB : yB o b own) (hd : decode b pc = .ok (.ishr, 1)) (hp : pc + 1 = pc') (hv : x >>> (y &&& 31) = v) (kk : yW o S pc' lv (.int v :: st)) : yW o S pc lv (.int y :: .int x :: st) := by
  subst hp
  subst hv
  exact fun ls H locs hl hH => lv_ishr hB.1 hB.2.1 hd (kk ls H locs hl hH)
theorem y_idiv {x y v : Int32} (hB : yB o b own) (hd : decode b pc = .ok (.idiv, 1)) (hp : pc + 1 = pc') (hne : ¬ y = 0) (hv : x / y = v) (kk : yW o S pc' lv (.int v :: st)) : yW o S pc lv (.int y :: .int x :: st) := by
  subst hp
  subst hv
  exact fun ls H locs hl hH => lv_idiv hB.1 hB.2.1 hd hne (kk ls H locs hl hH)
theorem y_iushr {x y v : Int32} (hB : yB o b own) (hd : decode b pc = .ok (.iushr, 1)) (hp : pc + 1 = pc') (hv : (x.toUInt32 >>> (y.toUInt32 &&& Int32.toUInt32 31)).toInt32 = v) (kk : yW o S pc' lv (.int v :: st)) : yW o S pc lv (.int y :: .int x :: st) := by
  subst hp
  subst hv
  exact fun ls H locs hl hH => lv_iushr hB.1 hB.2.1 hd rfl (kk ls H locs hl hH)
theorem y_ineg {x v : Int32} (hB : yB o b own) (hd : decode b pc = .ok (.ineg, 1)) (hp : pc + 1 = pc') (hv : -x = v) (kk : yW o S pc' lv (.int v :: st)) : yW o S pc lv (.int x :: st) := by
  subst hp
  subst hv
  exact fun ls H locs hl hH => lv_ineg hB.1 hB.2.1 hd (kk ls H locs hl hH)
theorem y_ladd {x y v : Int64} (hB : yB o b own) (hd : decode b pc = .ok (.ladd, 1)) (hp : pc + 1 = pc') (hv : x + y = v) (kk : yW o S pc' lv (.long v :: st)) : yW o S pc lv (.long y :: .long x :: st) := by
  subst hp
  subst hv
  exact fun ls H locs hl hH => lv_ladd hB.1 hB.2.1 hd (kk ls H locs hl hH)
theorem y_lsub {x y v : Int64} (hB : yB o b own) (hd : decode b pc = .ok (.lsub, 1)) (hp : pc + 1 = pc') (hv : x - y = v) (kk : yW o S pc' lv (.long v :: st)) : yW o S pc lv (.long y :: .long x :: st) := by
  subst hp
  subst hv
  exact fun ls H locs hl hH => lv_lsub hB.1 hB.2.1 hd (kk ls H locs hl hH)
theorem y_lmul {x y v : Int64} (hB : yB o b own) (hd : decode b pc = .ok (.lmul, 1)) (hp : pc + 1 = pc') (hv : x * y = v) (kk : yW o S pc' lv (.long v :: st)) : yW o S pc lv (.long y :: .long x :: st) := by
  subst hp
  subst hv
  exact fun ls H locs hl hH => lv_lmul hB.1 hB.2.1 hd (kk ls H locs hl hH)
theorem y_land {x y v : Int64} (hB : yB o b own) (hd : decode b pc = .ok (.land, 1)) (hp : pc + 1 = pc') (hv : x &&& y = v) (kk : yW o S pc' lv (.long v :: st)) : yW o S pc lv (.long y :: .long x :: st) := by
  subst hp
  subst hv
  exact fun ls H locs hl hH => lv_land hB.1 hB.2.1 hd (kk ls H locs hl hH)
theorem y_lor {x y v : Int64} (hB : yB o b own) (hd : decode b pc = .ok (.lor, 1)) (hp : pc + 1 = pc') (hv : x ||| y = v) (kk : yW o S pc' lv (.long v :: st)) : yW o S pc lv (.long y :: .long x :: st) := by
  subst hp
  subst hv
  exact fun ls H locs hl hH => lv_lor hB.1 hB.2.1 hd (kk ls H locs hl hH)
theorem y_lxor {x y v : Int64} (hB : yB o b own) (hd : decode b pc = .ok (.lxor, 1)) (hp : pc + 1 = pc') (hv : x ^^^ y = v) (kk : yW o S pc' lv (.long v :: st)) : yW o S pc lv (.long y :: .long x :: st) := by
  subst hp
  subst hv
  exact fun ls H locs hl hH => lv_lxor hB.1 hB.2.1 hd (kk ls H locs hl hH)
theorem y_lneg {x v : Int64} (hB : yB o b own) (hd : decode b pc = .ok (.lneg, 1)) (hp : pc + 1 = pc') (hv : -x = v) (kk : yW o S pc' lv (.long v :: st)) : yW o S pc lv (.long x :: st) := by
  subst hp
  subst hv
  exact fun ls H locs hl hH => lv_lneg hB.1 hB.2.1 hd (kk ls H locs hl hH)
theorem y_lushr {x v : Int64} {y : Int32} (hB : yB o b own) (hd : decode b pc = .ok (.lushr, 1)) (hp : pc + 1 = pc') (hv : (x.toUInt64 >>> (y.toInt64.toUInt64 &&& Int64.toUInt64 63)).toInt64 = v) (kk : yW o S pc' lv (.long v :: st)) : yW o S pc lv (.int y :: .long x :: st) := by
  subst hp
  subst hv
  exact fun ls H locs hl hH => lv_lushr hB.1 hB.2.1 hd rfl (kk ls H locs hl hH)
theorem y_lshl {x v : Int64} {y : Int32} (hB : yB o b own) (hd : decode b pc = .ok (.lshl, 1)) (hp : pc + 1 = pc') (hv : x <<< (y.toInt64 &&& 63) = v) (kk : yW o S pc' lv (.long v :: st)) : yW o S pc lv (.int y :: .long x :: st) := by
  subst hp
  subst hv
  exact fun ls H locs hl hH => lv_lshl hB.1 hB.2.1 hd rfl (kk ls H locs hl hH)
theorem y_lshr {x v : Int64} {y : Int32} (hB : yB o b own) (hd : decode b pc = .ok (.lshr, 1)) (hp : pc + 1 = pc') (hv : x >>> (y.toInt64 &&& 63) = v) (kk : yW o S pc' lv (.long v :: st)) : yW o S pc lv (.int y :: .long x :: st) := by
  subst hp
  subst hv
  exact fun ls H locs hl hH => lv_lshr hB.1 hB.2.1 hd rfl (kk ls H locs hl hH)
theorem y_i2l {x : Int32} {v : Int64} (hB : yB o b own) (hd : decode b pc = .ok (.i2l, 1)) (hp : pc + 1 = pc') (hv : x.toInt64 = v) (kk : yW o S pc' lv (.long v :: st)) : yW o S pc lv (.int x :: st) := by
  subst hp
  subst hv
  exact fun ls H locs hl hH => lv_i2l hB.1 hB.2.1 hd rfl (kk ls H locs hl hH)
theorem y_l2i {x : Int64} {v : Int32} (hB : yB o b own) (hd : decode b pc = .ok (.l2i, 1)) (hp : pc + 1 = pc') (hv : x.toInt32 = v) (kk : yW o S pc' lv (.int v :: st)) : yW o S pc lv (.long x :: st) := by
  subst hp
  subst hv
  exact fun ls H locs hl hH => lv_l2i hB.1 hB.2.1 hd rfl (kk ls H locs hl hH)
theorem y_lcmp {x y : Int64} (hB : yB o b own) (hd : decode b pc = .ok (.lcmp, 1)) (hp : pc + 1 = pc')  (kk : yW o S pc' lv (.int (lg_cmp x y) :: st)) : yW o S pc lv (.long y :: .long x :: st) := by
  subst hp
  exact fun ls H locs hl hH => W.lcmp hB.1 hB.2.1 hd (kk ls H locs hl hH)
theorem y_dup {v : Value} (hB : yB o b own) (hd : decode b pc = .ok (.dup, 1)) (hp : pc + 1 = pc') (hv : v.category = 1) (kk : yW o S pc' lv (v :: v :: st)) : yW o S pc lv (v :: st) := by
  subst hp
  exact fun ls H locs hl hH => lv_dup hB.1 hB.2.1 hd hv (kk ls H locs hl hH)
theorem y_pop {v : Value} (hB : yB o b own) (hd : decode b pc = .ok (.pop, 1)) (hp : pc + 1 = pc') (hv : v.category = 1) (kk : yW o S pc' lv (st)) : yW o S pc lv (v :: st) := by
  subst hp
  exact fun ls H locs hl hH => lv_pop hB.1 hB.2.1 hd hv (kk ls H locs hl hH)
theorem y_dup2 {v w : Value} (hB : yB o b own) (hd : decode b pc = .ok (.dup2, 1)) (hp : pc + 1 = pc') (hv : v.category = 1) (hw : w.category = 1) (kk : yW o S pc' lv (v :: w :: v :: w :: st)) : yW o S pc lv (v :: w :: st) := by
  subst hp
  exact fun ls H locs hl hH => lv_dup2_11 hB.1 hB.2.1 hd hv hw (kk ls H locs hl hH)
theorem y_dup_x1 {v w : Value} (hB : yB o b own) (hd : decode b pc = .ok (.dup_x1, 1)) (hp : pc + 1 = pc') (hv : v.category = 1) (hw : w.category = 1) (kk : yW o S pc' lv (v :: w :: v :: st)) : yW o S pc lv (v :: w :: st) := by
  subst hp
  exact fun ls H locs hl hH => lv_dup_x1 hB.1 hB.2.1 hd hv hw (kk ls H locs hl hH)
theorem y_dup_x2 {v w z : Value} (hB : yB o b own) (hd : decode b pc = .ok (.dup_x2, 1)) (hp : pc + 1 = pc') (hv : v.category = 1) (hw : w.category = 1) (hz : z.category = 1) (kk : yW o S pc' lv (v :: w :: z :: v :: st)) : yW o S pc lv (v :: w :: z :: st) := by
  subst hp
  exact fun ls H locs hl hH => lv_dup_x2 hB.1 hB.2.1 hd hv hw hz (kk ls H locs hl hH)
theorem y_if_eq {x : Int32} {off : Int} {tg : Nat} (hB : yB o b own) (hd : decode b pc = .ok (.ifCond .eq off, 3)) (hp : pc + 3 = pc') (ht : (pc : Int) + off = (tg : Int)) (kt : x = 0 → yW o S tg lv st) (kf : ¬ x = 0 → yW o S pc' lv st) : yW o S pc lv (.int x :: st) := by
  subst hp
  exact fun ls H locs hl hH => lv_if_eq hB.1 hB.2.1 hd ht (fun h => kt h ls H locs hl hH) (fun h => kf h ls H locs hl hH)
theorem y_icmp_eq {x y : Int32} {off : Int} {tg : Nat} (hB : yB o b own) (hd : decode b pc = .ok (.if_icmp .eq off, 3)) (hp : pc + 3 = pc') (ht : (pc : Int) + off = (tg : Int)) (kt : x = y → yW o S tg lv st) (kf : ¬ x = y → yW o S pc' lv st) : yW o S pc lv (.int y :: .int x :: st) := by
  subst hp
  exact fun ls H locs hl hH => lv_icmp_eq hB.1 hB.2.1 hd ht (fun h => kt h ls H locs hl hH) (fun h => kf h ls H locs hl hH)
theorem y_if_ne {x : Int32} {off : Int} {tg : Nat} (hB : yB o b own) (hd : decode b pc = .ok (.ifCond .ne off, 3)) (hp : pc + 3 = pc') (ht : (pc : Int) + off = (tg : Int)) (kt : ¬ x = 0 → yW o S tg lv st) (kf : x = 0 → yW o S pc' lv st) : yW o S pc lv (.int x :: st) := by
  subst hp
  exact fun ls H locs hl hH => lv_if_ne hB.1 hB.2.1 hd ht (fun h => kt h ls H locs hl hH) (fun h => kf h ls H locs hl hH)
theorem y_icmp_ne {x y : Int32} {off : Int} {tg : Nat} (hB : yB o b own) (hd : decode b pc = .ok (.if_icmp .ne off, 3)) (hp : pc + 3 = pc') (ht : (pc : Int) + off = (tg : Int)) (kt : ¬ x = y → yW o S tg lv st) (kf : x = y → yW o S pc' lv st) : yW o S pc lv (.int y :: .int x :: st) := by
  subst hp
  exact fun ls H locs hl hH => lv_icmp_ne hB.1 hB.2.1 hd ht (fun h => kt h ls H locs hl hH) (fun h => kf h ls H locs hl hH)
theorem y_if_lt {x : Int32} {off : Int} {tg : Nat} (hB : yB o b own) (hd : decode b pc = .ok (.ifCond .lt off, 3)) (hp : pc + 3 = pc') (ht : (pc : Int) + off = (tg : Int)) (kt : x < 0 → yW o S tg lv st) (kf : ¬ x < 0 → yW o S pc' lv st) : yW o S pc lv (.int x :: st) := by
  subst hp
  exact fun ls H locs hl hH => lv_if_lt hB.1 hB.2.1 hd ht (fun h => kt h ls H locs hl hH) (fun h => kf h ls H locs hl hH)
theorem y_icmp_lt {x y : Int32} {off : Int} {tg : Nat} (hB : yB o b own) (hd : decode b pc = .ok (.if_icmp .lt off, 3)) (hp : pc + 3 = pc') (ht : (pc : Int) + off = (tg : Int)) (kt : x < y → yW o S tg lv st) (kf : ¬ x < y → yW o S pc' lv st) : yW o S pc lv (.int y :: .int x :: st) := by
  subst hp
  exact fun ls H locs hl hH => lv_icmp_lt hB.1 hB.2.1 hd ht (fun h => kt h ls H locs hl hH) (fun h => kf h ls H locs hl hH)
theorem y_if_ge {x : Int32} {off : Int} {tg : Nat} (hB : yB o b own) (hd : decode b pc = .ok (.ifCond .ge off, 3)) (hp : pc + 3 = pc') (ht : (pc : Int) + off = (tg : Int)) (kt : 0 ≤ x → yW o S tg lv st) (kf : ¬ 0 ≤ x → yW o S pc' lv st) : yW o S pc lv (.int x :: st) := by
  subst hp
  exact fun ls H locs hl hH => lv_if_ge hB.1 hB.2.1 hd ht (fun h => kt h ls H locs hl hH) (fun h => kf h ls H locs hl hH)
theorem y_icmp_ge {x y : Int32} {off : Int} {tg : Nat} (hB : yB o b own) (hd : decode b pc = .ok (.if_icmp .ge off, 3)) (hp : pc + 3 = pc') (ht : (pc : Int) + off = (tg : Int)) (kt : y ≤ x → yW o S tg lv st) (kf : ¬ y ≤ x → yW o S pc' lv st) : yW o S pc lv (.int y :: .int x :: st) := by
  subst hp
  exact fun ls H locs hl hH => lv_icmp_ge hB.1 hB.2.1 hd ht (fun h => kt h ls H locs hl hH) (fun h => kf h ls H locs hl hH)
theorem y_if_gt {x : Int32} {off : Int} {tg : Nat} (hB : yB o b own) (hd : decode b pc = .ok (.ifCond .gt off, 3)) (hp : pc + 3 = pc') (ht : (pc : Int) + off = (tg : Int)) (kt : 0 < x → yW o S tg lv st) (kf : ¬ 0 < x → yW o S pc' lv st) : yW o S pc lv (.int x :: st) := by
  subst hp
  exact fun ls H locs hl hH => lv_if_gt hB.1 hB.2.1 hd ht (fun h => kt h ls H locs hl hH) (fun h => kf h ls H locs hl hH)
theorem y_icmp_gt {x y : Int32} {off : Int} {tg : Nat} (hB : yB o b own) (hd : decode b pc = .ok (.if_icmp .gt off, 3)) (hp : pc + 3 = pc') (ht : (pc : Int) + off = (tg : Int)) (kt : y < x → yW o S tg lv st) (kf : ¬ y < x → yW o S pc' lv st) : yW o S pc lv (.int y :: .int x :: st) := by
  subst hp
  exact fun ls H locs hl hH => lv_icmp_gt hB.1 hB.2.1 hd ht (fun h => kt h ls H locs hl hH) (fun h => kf h ls H locs hl hH)
theorem y_if_le {x : Int32} {off : Int} {tg : Nat} (hB : yB o b own) (hd : decode b pc = .ok (.ifCond .le off, 3)) (hp : pc + 3 = pc') (ht : (pc : Int) + off = (tg : Int)) (kt : x ≤ 0 → yW o S tg lv st) (kf : ¬ x ≤ 0 → yW o S pc' lv st) : yW o S pc lv (.int x :: st) := by
  subst hp
  exact fun ls H locs hl hH => lv_if_le hB.1 hB.2.1 hd ht (fun h => kt h ls H locs hl hH) (fun h => kf h ls H locs hl hH)
theorem y_icmp_le {x y : Int32} {off : Int} {tg : Nat} (hB : yB o b own) (hd : decode b pc = .ok (.if_icmp .le off, 3)) (hp : pc + 3 = pc') (ht : (pc : Int) + off = (tg : Int)) (kt : x ≤ y → yW o S tg lv st) (kf : ¬ x ≤ y → yW o S pc' lv st) : yW o S pc lv (.int y :: .int x :: st) := by
  subst hp
  exact fun ls H locs hl hH => lv_icmp_le hB.1 hB.2.1 hd ht (fun h => kt h ls H locs hl hH) (fun h => kf h ls H locs hl hH)
theorem y_goto {off : Int} {tg : Nat} (hB : yB o b own) (hd : decode b pc = .ok (.goto off, 3)) (ht : (pc : Int) + off = (tg : Int)) (kk : yW o S tg lv st) : yW o S pc lv st := fun ls H locs hl hH => lv_goto hB.1 hB.2.1 hd ht (kk ls H locs hl hH)
theorem y_lookup {dflt off : Int} {ps : Array (Int × Int)} {len tg : Nat} {x : Int32} (hB : yB o b own) (hd : decode b pc = .ok (.lookupswitch dflt ps, len)) (hps : (ps.toList.zip (ps.toList.drop 1)).all (fun (a, next) => a.1 < next.1) = true) (ho : Op.lookupswitch.offset ps.toList dflt x.toInt = off) (ht : (pc : Int) + off = (tg : Int)) (kk : yW o S tg lv st) : yW o S pc lv (.int x :: st) := fun ls H locs hl hH => lv_lookup hB.1 hB.2.1 hd hps ho ht (kk ls H locs hl hH)
theorem y_tableOut {dflt lo hi : Int} {offs : Array Int} {len tg : Nat} {x : Int32} (hB : yB o b own) (hd : decode b pc = .ok (.tableswitch dflt lo hi offs, len)) (h : x.toInt < lo ∨ hi < x.toInt) (ht : (pc : Int) + dflt = (tg : Int)) (kk : yW o S tg lv st) : yW o S pc lv (.int x :: st) := fun ls H locs hl hH => lv_tableOut hB.1 hB.2.1 hd h ht (kk ls H locs hl hH)
theorem y_tableIn {dflt lo hi off : Int} {offs : Array Int} {len tg : Nat} {x : Int32} (hB : yB o b own) (hd : decode b pc = .ok (.tableswitch dflt lo hi offs, len)) (h1 : ¬ x.toInt < lo) (h2 : ¬ hi < x.toInt) (ho : offs[(x.toInt - lo).toNat]? = some off) (ht : (pc : Int) + off = (tg : Int)) (kk : yW o S tg lv st) : yW o S pc lv (.int x :: st) := fun ls H locs hl hH => lv_tableIn hB.1 hB.2.1 hd h1 h2 ho ht (kk ls H locs hl hH)
/-- another spelling of what is on top -/
theorem y_topi {x y : Int32} (h : x = y) (kk : yW o S pc lv (.int y :: st)) : yW o S pc lv (.int x :: st) := h ▸ kk
theorem y_topl {x y : Int64} (h : x = y) (kk : yW o S pc lv (.long y :: st)) : yW o S pc lv (.long x :: st) := h ▸ kk
/-- fewer locals -/
theorem y_sub {lv' : List (Nat × Value)} (ks : List Nat) (h : lv_pick lv ks = lv') (kk : yW o S pc lv' st) : yW o S pc lv st := fun ls H locs hl hH => kk ls H locs (lv_sub hl ks h) hH
theorem nI_iff_lt {a b : Nat} (ha : a < 2 ^ 31) (hb : b < 2 ^ 31) : nI a < nI b ↔ a < b := nI_ltI ha hb
theorem nI_z {a : Nat} (ha : a < 2 ^ 31) : nI a = 0 ↔ a = 0 := by
  rw [← nI_0, nI_eq ha (by decide)]
theorem nI_zle {a : Nat} (ha : a < 2 ^ 31) : nI a ≤ 0 ↔ a = 0 := by
  rw [← nI_0, nI_leI ha (by decide)]
  omega
theorem nI_zlt {a : Nat} (ha : a < 2 ^ 31) : 0 < nI a ↔ 0 < a := by
  rw [← nI_0, nI_ltI (by decide) ha]
theorem n_icmp_eq {x y : Nat} {off : Int} {tg : Nat} (hB : yB o b own) (hd : decode b pc = .ok (.if_icmp .eq off, 3)) (hp : pc + 3 = pc') (ht : (pc : Int) + off = (tg : Int)) (hx : x < 2 ^ 31) (hy : y < 2 ^ 31) (kt : x = y → yW o S tg lv st) (kf : ¬ x = y → yW o S pc' lv st) : yW o S pc lv (.int (nI y) :: .int (nI x) :: st) := y_icmp_eq hB hd hp ht (fun h => kt (by rw [nI_eq hx hy] at h; omega)) (fun h => kf (by rw [nI_eq hx hy] at h; omega))
theorem n_icmp_ne {x y : Nat} {off : Int} {tg : Nat} (hB : yB o b own) (hd : decode b pc = .ok (.if_icmp .ne off, 3)) (hp : pc + 3 = pc') (ht : (pc : Int) + off = (tg : Int)) (hx : x < 2 ^ 31) (hy : y < 2 ^ 31) (kt : ¬ x = y → yW o S tg lv st) (kf : x = y → yW o S pc' lv st) : yW o S pc lv (.int (nI y) :: .int (nI x) :: st) := y_icmp_ne hB hd hp ht (fun h => kt (by rw [nI_eq hx hy] at h; omega)) (fun h => kf (by rw [nI_eq hx hy] at h; omega))
theorem n_icmp_lt {x y : Nat} {off : Int} {tg : Nat} (hB : yB o b own) (hd : decode b pc = .ok (.if_icmp .lt off, 3)) (hp : pc + 3 = pc') (ht : (pc : Int) + off = (tg : Int)) (hx : x < 2 ^ 31) (hy : y < 2 ^ 31) (kt : x < y → yW o S tg lv st) (kf : y ≤ x → yW o S pc' lv st) : yW o S pc lv (.int (nI y) :: .int (nI x) :: st) := y_icmp_lt hB hd hp ht (fun h => kt (by rw [nI_ltI hx hy] at h; omega)) (fun h => kf (by rw [nI_ltI hx hy] at h; omega))
theorem n_icmp_ge {x y : Nat} {off : Int} {tg : Nat} (hB : yB o b own) (hd : decode b pc = .ok (.if_icmp .ge off, 3)) (hp : pc + 3 = pc') (ht : (pc : Int) + off = (tg : Int)) (hx : x < 2 ^ 31) (hy : y < 2 ^ 31) (kt : y ≤ x → yW o S tg lv st) (kf : x < y → yW o S pc' lv st) : yW o S pc lv (.int (nI y) :: .int (nI x) :: st) := y_icmp_ge hB hd hp ht (fun h => kt (by rw [nI_leI hy hx] at h; omega)) (fun h => kf (by rw [nI_leI hy hx] at h; omega))
theorem n_icmp_gt {x y : Nat} {off : Int} {tg : Nat} (hB : yB o b own) (hd : decode b pc = .ok (.if_icmp .gt off, 3)) (hp : pc + 3 = pc') (ht : (pc : Int) + off = (tg : Int)) (hx : x < 2 ^ 31) (hy : y < 2 ^ 31) (kt : y < x → yW o S tg lv st) (kf : x ≤ y → yW o S pc' lv st) : yW o S pc lv (.int (nI y) :: .int (nI x) :: st) := y_icmp_gt hB hd hp ht (fun h => kt (by rw [nI_ltI hy hx] at h; omega)) (fun h => kf (by rw [nI_ltI hy hx] at h; omega))
theorem n_icmp_le {x y : Nat} {off : Int} {tg : Nat} (hB : yB o b own) (hd : decode b pc = .ok (.if_icmp .le off, 3)) (hp : pc + 3 = pc') (ht : (pc : Int) + off = (tg : Int)) (hx : x < 2 ^ 31) (hy : y < 2 ^ 31) (kt : x ≤ y → yW o S tg lv st) (kf : y < x → yW o S pc' lv st) : yW o S pc lv (.int (nI y) :: .int (nI x) :: st) := y_icmp_le hB hd hp ht (fun h => kt (by rw [nI_leI hx hy] at h; omega)) (fun h => kf (by rw [nI_leI hx hy] at h; omega))
theorem n_if_eq {x : Nat} {off : Int} {tg : Nat} (hB : yB o b own) (hd : decode b pc = .ok (.ifCond .eq off, 3)) (hp : pc + 3 = pc') (ht : (pc : Int) + off = (tg : Int)) (hx : x < 2 ^ 31) (kt : x = 0 → yW o S tg lv st) (kf : 0 < x → yW o S pc' lv st) : yW o S pc lv (.int (nI x) :: st) := y_if_eq hB hd hp ht (fun h => kt (by rw [nI_z hx] at h; omega)) (fun h => kf (by rw [nI_z hx] at h; omega))
theorem n_if_ne {x : Nat} {off : Int} {tg : Nat} (hB : yB o b own) (hd : decode b pc = .ok (.ifCond .ne off, 3)) (hp : pc + 3 = pc') (ht : (pc : Int) + off = (tg : Int)) (hx : x < 2 ^ 31) (kt : 0 < x → yW o S tg lv st) (kf : x = 0 → yW o S pc' lv st) : yW o S pc lv (.int (nI x) :: st) := y_if_ne hB hd hp ht (fun h => kt (by rw [nI_z hx] at h; omega)) (fun h => kf (by rw [nI_z hx] at h; omega))
theorem n_if_gt {x : Nat} {off : Int} {tg : Nat} (hB : yB o b own) (hd : decode b pc = .ok (.ifCond .gt off, 3)) (hp : pc + 3 = pc') (ht : (pc : Int) + off = (tg : Int)) (hx : x < 2 ^ 31) (kt : 0 < x → yW o S tg lv st) (kf : x = 0 → yW o S pc' lv st) : yW o S pc lv (.int (nI x) :: st) := y_if_gt hB hd hp ht (fun h => kt (by rw [nI_zlt hx] at h; omega)) (fun h => kf (by rw [nI_zlt hx] at h; omega))
theorem n_if_le {x : Nat} {off : Int} {tg : Nat} (hB : yB o b own) (hd : decode b pc = .ok (.ifCond .le off, 3)) (hp : pc + 3 = pc') (ht : (pc : Int) + off = (tg : Int)) (hx : x < 2 ^ 31) (kt : x = 0 → yW o S tg lv st) (kf : 0 < x → yW o S pc' lv st) : yW o S pc lv (.int (nI x) :: st) := y_if_le hB hd hp ht (fun h => kt (by rw [nI_zle hx] at h; omega)) (fun h => kf (by rw [nI_zle hx] at h; omega))
theorem n_if_lt {x : Nat} {off : Int} {tg : Nat} (hB : yB o b own) (hd : decode b pc = .ok (.ifCond .lt off, 3)) (hp : pc + 3 = pc') (ht : (pc : Int) + off = (tg : Int)) (hx : x < 2 ^ 31) (kf : yW o S pc' lv st) : yW o S pc lv (.int (nI x) :: st) := y_if_lt hB hd hp ht (fun h => absurd h (nI_pos hx)) (fun _ => kf)
theorem n_if_ge {x : Nat} {off : Int} {tg : Nat} (hB : yB o b own) (hd : decode b pc = .ok (.ifCond .ge off, 3)) (hp : pc + 3 = pc') (ht : (pc : Int) + off = (tg : Int)) (hx : x < 2 ^ 31) (kt : yW o S tg lv st) : yW o S pc lv (.int (nI x) :: st) := y_if_ge hB hd hp ht (fun _ => kt) (fun h => absurd (nI_pos' hx) h)
theorem n_iadd {x y : Nat} (hB : yB o b own) (hd : decode b pc = .ok (.iadd, 1)) (hp : pc + 1 = pc') (kk : yW o S pc' lv (.int (nI (x + y)) :: st)) : yW o S pc lv (.int (nI y) :: .int (nI x) :: st) := y_iadd hB hd hp (nI_add x y) kk
theorem n_isub {x y : Nat} (hB : yB o b own) (hd : decode b pc = .ok (.isub, 1)) (hp : pc + 1 = pc') (h : y ≤ x) (kk : yW o S pc' lv (.int (nI (x - y)) :: st)) : yW o S pc lv (.int (nI y) :: .int (nI x) :: st) := y_isub hB hd hp (pk_sub h) kk
theorem n_imul {x y : Nat} (hB : yB o b own) (hd : decode b pc = .ok (.imul, 1)) (hp : pc + 1 = pc') (kk : yW o S pc' lv (.int (nI (x * y)) :: st)) : yW o S pc lv (.int (nI y) :: .int (nI x) :: st) := y_imul hB hd hp (pk_mul x y) kk
theorem n_idiv {x y : Nat} (hB : yB o b own) (hd : decode b pc = .ok (.idiv, 1)) (hp : pc + 1 = pc') (hx : x < 2 ^ 31) (h0 : 0 < y) (hy : y < 2 ^ 31) (kk : yW o S pc' lv (.int (nI (x / y)) :: st)) : yW o S pc lv (.int (nI y) :: .int (nI x) :: st) := y_idiv hB hd hp (nI_ne0 h0 hy) (pk_div hx h0 hy) kk
theorem n_inc {i n q x : Nat} {z : Nat} {lv' : List (Nat × Value)} (hB : yB o b own) (hm : o.c.maxLocals = n) (hd : decode b pc = .ok (.iinc i (z : Int), 3)) (hp : pc + 3 = pc') (hq : lv[q]? = some (i, .int (nI x))) (hn : i < n) (hl' : (i, Value.int (nI (x + z))) :: lv.filter (fun q => !(q.1 == i) && !(q.1 + 1 == i && q.2.category == 2)) = lv') (kk : yW o S pc' lv' st) : yW o S pc lv st := y_iinc hB hm hd hp hq (by rw [show Int32.ofInt (z : Int) = nI z from Int32.ofInt_eq_ofNat, nI_add]) hn hl' kk
theorem n_dec {i n q x : Nat} {lv' : List (Nat × Value)} (hB : yB o b own) (hm : o.c.maxLocals = n) (hd : decode b pc = .ok (.iinc i (-1), 3)) (hp : pc + 3 = pc') (hx : 0 < x) (hq : lv[q]? = some (i, .int (nI x))) (hn : i < n) (hl' : (i, Value.int (nI (x - 1))) :: lv.filter (fun q => !(q.1 == i) && !(q.1 + 1 == i && q.2.category == 2)) = lv') (kk : yW o S pc' lv' st) : yW o S pc lv st := y_iinc hB hm hd hp hq (sb_m1 hx) hn hl' kk
end YR
