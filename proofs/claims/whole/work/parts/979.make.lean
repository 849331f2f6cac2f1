/-! MAKING: a calculus over a world that grows; v is what stood there, w what this method has made and holds -/
def tH (o : YO) (v w : va_W) (H : Heap) (locs : List Loc) : Prop := va_P o.G.D ycl (v ++ w) H ∧ va_D (yA o.G.B) (v ++ w) ∧ va_S (yA o.G.B) o.s.heap H locs
def tW (o : YO) (c s : Nat) (v w : va_W) (pc : Nat) (lv : List (Nat × Value)) (st : List Value) : Prop :=
  ∀ (ls : Array Slot) (H : Heap) (locs : List Loc), lv_has ls o.c.maxLocals lv → tH o v w H locs → W o.p o.l o.e o.R o.s o.m o.args o.below o.meth o.c H locs c s o.Q (F0 o.m pc ls st)
theorem t_at {v w : va_W} {k : Nat} {x : Nat × va_E} (h : w[k]? = some x) : (v ++ w)[v.length + k]? = some x := by
  rw [List.getElem?_append_right (by omega), show v.length + k - v.length = k by omega]
  exact h
theorem t_setAt (v w : va_W) (k : Nat) (x : Nat × va_E) : (v ++ w).set (v.length + k) x = v ++ w.set k x := by
  have h : ∀ (v w : List (Nat × va_E)), (v ++ w).set (v.length + k) x = v ++ w.set k x := by
    intro v
    induction v with
    | nil => intro w; simp
    | cons a v ih =>
      intro w
      show (a :: (v ++ w)).set (v.length + 1 + k) x = a :: (v ++ w.set k x)
      rw [show v.length + 1 + k = (v.length + k) + 1 by omega, List.set_cons_succ, ih]
  exact h v w
section TR
variable {o : YO} {b : ByteArray} {own : String} {c s : Nat} {v w : va_W} {pc pc' : Nat} {lv : List (Nat × Value)} {st : List Value}
theorem t_iconst {n : Int} {x : Int32} (hB : yB o b own) (hd : decode b pc = .ok (.iconst n, 1)) (hp : pc + 1 = pc') (hv : Int32.ofInt n = x) (kk : tW o c s v w pc' lv (.int x :: st)) : tW o c s v w pc lv (st) := by
  subst hp
  subst hv
  exact fun ls H locs hl hH => lv_iconst hB.1 hB.2.1 hd rfl (kk ls H locs hl hH)
theorem t_bipush {n : Int} {x : Int32} (hB : yB o b own) (hd : decode b pc = .ok (.bipush n, 2)) (hp : pc + 2 = pc') (hv : (Int8.ofInt n).toInt32 = x) (kk : tW o c s v w pc' lv (.int x :: st)) : tW o c s v w pc lv (st) := by
  subst hp
  subst hv
  exact fun ls H locs hl hH => lv_bipush hB.1 hB.2.1 hd rfl (kk ls H locs hl hH)
theorem t_sipush {n : Int} {x : Int32} (hB : yB o b own) (hd : decode b pc = .ok (.sipush n, 3)) (hp : pc + 3 = pc') (hv : (Int16.ofInt n).toInt32 = x) (kk : tW o c s v w pc' lv (.int x :: st)) : tW o c s v w pc lv (st) := by
  subst hp
  subst hv
  exact fun ls H locs hl hH => lv_sipush hB.1 hB.2.1 hd rfl (kk ls H locs hl hH)
theorem t_iload_n {k : Fin 4} {i : Nat} {x : Int32} (hB : yB o b own) (hd : decode b pc = .ok (.iload_n k, 1)) (hp : pc + 1 = pc') (hi : (k : Nat) = i) (q : Nat) (hq : lv[q]? = some (i, .int x)) (kk : tW o c s v w pc' lv (.int x :: st)) : tW o c s v w pc lv (st) := by
  subst hp
  exact fun ls H locs hl hH => lv_iload_n hB.1 hB.2.1 hd hi (lv_at hl q hq) (kk ls H locs hl hH)
theorem t_istore_n {k : Fin 4} {i n : Nat} {x : Int32} {lv' : List (Nat × Value)} (hB : yB o b own) (hm : o.c.maxLocals = n) (hd : decode b pc = .ok (.istore_n k, 1)) (hp : pc + 1 = pc') (hi : (k : Nat) = i) (hn : i < n) (hl' : (i, Value.int x) :: lv.filter (fun q => !(q.1 == i) && !(q.1 + 1 == i && q.2.category == 2)) = lv') (kk : tW o c s v w pc' lv' st) : tW o c s v w pc lv (.int x :: st) := by
  subst hp
  subst hm
  exact fun ls H locs hl hH => lv_istore_n hB.1 hB.2.1 hd hi hl hn hl' (fun ls' h' => kk ls' H locs h' hH)
theorem t_aload_n {k : Fin 4} {i : Nat} {x : Nat} (hB : yB o b own) (hd : decode b pc = .ok (.aload_n k, 1)) (hp : pc + 1 = pc') (hi : (k : Nat) = i) (q : Nat) (hq : lv[q]? = some (i, .ref x)) (kk : tW o c s v w pc' lv (.ref x :: st)) : tW o c s v w pc lv (st) := by
  subst hp
  exact fun ls H locs hl hH => lv_aload_n hB.1 hB.2.1 hd hi (lv_at hl q hq) (kk ls H locs hl hH)
theorem t_astore_n {k : Fin 4} {i n : Nat} {x : Nat} {lv' : List (Nat × Value)} (hB : yB o b own) (hm : o.c.maxLocals = n) (hd : decode b pc = .ok (.astore_n k, 1)) (hp : pc + 1 = pc') (hi : (k : Nat) = i) (hn : i < n) (hl' : (i, Value.ref x) :: lv.filter (fun q => !(q.1 == i) && !(q.1 + 1 == i && q.2.category == 2)) = lv') (kk : tW o c s v w pc' lv' st) : tW o c s v w pc lv (.ref x :: st) := by
  subst hp
  subst hm
  exact fun ls H locs hl hH => lv_astore_n hB.1 hB.2.1 hd hi hl hn hl' (fun ls' h' => kk ls' H locs h' hH)
theorem t_iinc {i n q : Nat} {x y : Int32} {z : Int} {lv' : List (Nat × Value)} (hB : yB o b own) (hm : o.c.maxLocals = n) (hd : decode b pc = .ok (.iinc i z, 3)) (hp : pc + 3 = pc') (hq : lv[q]? = some (i, .int x)) (hv : x + Int32.ofInt z = y) (hn : i < n) (hl' : (i, Value.int y) :: lv.filter (fun q => !(q.1 == i) && !(q.1 + 1 == i && q.2.category == 2)) = lv') (kk : tW o c s v w pc' lv' st) : tW o c s v w pc lv st := by
  subst hp
  subst hm
  exact fun ls H locs hl hH => lv_iinc hB.1 hB.2.1 hd hl hq hv hn hl' (fun ls' h' => kk ls' H locs h' hH)
theorem t_dup {x : Value} (hB : yB o b own) (hd : decode b pc = .ok (.dup, 1)) (hp : pc + 1 = pc') (hv : x.category = 1) (kk : tW o c s v w pc' lv (x :: x :: st)) : tW o c s v w pc lv (x :: st) := by
  subst hp
  exact fun ls H locs hl hH => lv_dup hB.1 hB.2.1 hd hv (kk ls H locs hl hH)
theorem t_goto {off : Int} {tg : Nat} (hB : yB o b own) (hd : decode b pc = .ok (.goto off, 3)) (ht : (pc : Int) + off = (tg : Int)) (kk : tW o c s v w tg lv st) : tW o c s v w pc lv st := fun ls H locs hl hH => lv_goto hB.1 hB.2.1 hd ht (kk ls H locs hl hH)
theorem t_icmp_ge {x y : Int32} {off : Int} {tg : Nat} (hB : yB o b own) (hd : decode b pc = .ok (.if_icmp .ge off, 3)) (hp : pc + 3 = pc') (ht : (pc : Int) + off = (tg : Int)) (kt : y ≤ x → tW o c s v w tg lv st) (kf : ¬ y ≤ x → tW o c s v w pc' lv st) : tW o c s v w pc lv (.int y :: .int x :: st) := by
  subst hp
  exact fun ls H locs hl hH => lv_icmp_ge hB.1 hB.2.1 hd ht (fun h => kt h ls H locs hl hH) (fun h => kf h ls H locs hl hH)
theorem t_get {k0 ci k ix N a : Nat} {C : String} {T : u_T} {fs : List Value} {x : Value} (hB : yB o b own) (hd : decode b pc = .ok (.getfield ix, 3)) (hp : pc + 3 = pc') (he : w[k0]? = some (a, .inr (ci, fs))) (hcl : ycl[ci]? = some (C, T, N)) (hin : ∀ w ∈ u_ws C T N, w ∈ yL) (hk : k < N) (hl : Cond.fieldLink own ix C (T k).2.1 (T k).2.2.1 ∈ yL) (hT : (T k).1 = C) (hv : fs[k]? = some x) (kk : tW o c s v w pc' lv (x :: st)) : tW o c s v w pc lv (.ref a :: st) := by
  subst hp
  exact fun ls H locs hl' hH => va_get hB.1 hB.2.1 hB.ts hin hB.2.2.1 hB.K hH.1 (v.length + k0) (t_at he) hcl k hk (hB.at hl) (fun x hx => by rw [hT] at hx; exact hx) hv hd (kk ls H locs hl' hH)
theorem t_put {k0 ci k ix N a : Nat} {C : String} {T : u_T} {fs : List Value} {x : Value} {ty : FieldType} (hB : yB o b own) (hd : decode b pc = .ok (.putfield ix, 3)) (hp : pc + 3 = pc') (he : w[k0]? = some (a, .inr (ci, fs))) (hcl : ycl[ci]? = some (C, T, N)) (hin : ∀ w ∈ u_ws C T N, w ∈ yL) (ty0 : Nat → FieldType) (hty : ∀ k, k < N → parseFieldDescriptor (T k).2.2.1 = some (ty0 k)) (hnm : ∀ a, a < N → ∀ b, b < N → a ≠ b → (T a).2.1 ≠ (T b).2.1) (hk : k < N) (hl : Cond.fieldLink own ix C (T k).2.1 (T k).2.2.1 ∈ yL) (hT : (T k).1 = C) (hfin : (T k).2.2.2 = false) (htk : parseFieldDescriptor (T k).2.2.1 = some ty) (hn : narrow ty x = x) (hf : fits ty x = true) (hlen : k < fs.length) (kk : tW o c s v (w.set k0 (a, .inr (ci, fs.set k x))) pc' lv st) : tW o c s v w pc lv (x :: .ref a :: st) := by
  subst hp
  refine fun ls H locs hl' hH => va_put hB.1 hB.2.1 hB.ts hin ty0 hty hnm hB.2.2.1 hB.K hH.1 hH.2.1 hH.2.2 (v.length + k0) (t_at he) hcl k hk (hB.at hl) (fun x hx => by rw [hT] at hx; exact hx) hfin htk hn hf hlen hd (fun H1 locs1 hP1 hD1 hS1 => kk ls H1 locs1 hl' ?_)
  rw [t_setAt] at hP1 hD1
  exact ⟨hP1, hD1, hS1⟩
theorem t_putF {k0 ci k ix N a : Nat} {C : String} {T : u_T} {fs : List Value} {x : Value} {ty : FieldType} (hB : yB o b own) (hi : o.meth.name = "<init>") (hd : decode b pc = .ok (.putfield ix, 3)) (hp : pc + 3 = pc') (he : w[k0]? = some (a, .inr (ci, fs))) (hcl : ycl[ci]? = some (C, T, N)) (hin : ∀ w ∈ u_ws C T N, w ∈ yL) (ty0 : Nat → FieldType) (hty : ∀ k, k < N → parseFieldDescriptor (T k).2.2.1 = some (ty0 k)) (hnm : ∀ a, a < N → ∀ b, b < N → a ≠ b → (T a).2.1 ≠ (T b).2.1) (hk : k < N) (hl : Cond.fieldLink own ix C (T k).2.1 (T k).2.2.1 ∈ yL) (hT : (T k).1 = C) (hfin : (T k).2.2.2 = true) (hdc : (T k).1 = own) (htk : parseFieldDescriptor (T k).2.2.1 = some ty) (hn : narrow ty x = x) (hf : fits ty x = true) (hlen : k < fs.length) (kk : tW o c s v (w.set k0 (a, .inr (ci, fs.set k x))) pc' lv st) : tW o c s v w pc lv (x :: .ref a :: st) := by
  subst hp
  refine fun ls H locs hl' hH => va_putF hB.1 hB.2.1 hB.ts hin ty0 hty hnm hB.2.2.1 hB.K hH.1 hH.2.1 hH.2.2 (v.length + k0) (t_at he) hcl k hk (hB.at hl) (fun x hx => by rw [hT] at hx; exact hx) hfin hi hdc htk hn hf hlen hd (fun H1 locs1 hP1 hD1 hS1 => kk ls H1 locs1 hl' ?_)
  rw [t_setAt] at hP1 hD1
  exact ⟨hP1, hD1, hS1⟩
theorem t_A (hB : yB o b own) : ∀ q, o.s.heap.size ≤ q → yA o.G.B q := fun q hq => Nat.le_trans hB.2.2.2.2.2.2.2.2.1 hq
theorem t_new {ci ix N : Nat} {C : String} {T : u_T} {fs : List Value} (hB : yB o b own) (hd : decode b pc = .ok (.new ix, 3)) (hp : pc + 3 = pc') (hcl : ycl[ci]? = some (C, T, N)) (hin : ∀ w ∈ u_ws C T N, w ∈ yL) (ty0 : Nat → FieldType) (hty : ∀ k, k < N → parseFieldDescriptor (T k).2.2.1 = some (ty0 k)) (hl : Cond.classLink own ix C ∈ yL) (hin2 : Cond.instantiable C N ∈ yL) (hini : Cond.initialized C ∈ yL) (hfs : ∀ j, j < N → defaultValue (ty0 j) = vp_V fs j) (hc : c + 1 ≤ o.R.cells) (hs : s + N ≤ o.R.slots)
    (kk : ∀ q : Nat, tW o (c + 1) (s + N) v (w ++ [(q, .inr (ci, fs))]) pc' lv (.ref q :: st)) : tW o c s v w pc lv st := by
  subst hp
  refine fun ls H locs hl' hH => va_new hB.1 hB.2.1 hB.ts hin ty0 hty hB.2.2.1 (hB.at hl) (hB.at hin2) (hB.at hini) hB.K hH.1 hH.2.1 hH.2.2 (t_A hB) hcl hfs hc hs hd (fun q H1 hP1 hD1 hS1 => kk q ls H1 locs hl' ?_)
  rw [List.append_assoc] at hP1 hD1
  exact ⟨hP1, hD1, hS1⟩
theorem t_ca {t0 : Nat} {cA : ClassId} {ty : FieldType} {C : ClassId} (hB : yB o b own) (h1 : (yt o.G.ca)[t0]? = some (C, ty)) (hne : ∀ n, ty ≠ .object n) (h2 : va_K o.G.D ycl (yt o.G.ca ++ [(cA, ty)]) o.s) : cA = C := by
  have a1 := (hB.K.2 t0 _ h1).2
  have a2 := (h2.2 3 (cA, ty) rfl).2
  cases ty with
  | object n => exact (hne n rfl).elim
  | _ => exact Option.some.inj (a2.symm.trans a1)
theorem t_newl {N : Nat} {n : Int32} (hB : yB o b own) (hd : decode b pc = .ok (.newarray .long, 2)) (hp : pc + 2 = pc') (hw : Cond.arrayClass .long ∈ yL) (hn : n = nI N) (hN : N ≤ 4096) (hc : c + 1 ≤ o.R.cells) (hs : s + N ≤ o.R.slots)
    (kk : ∀ q : Nat, tW o (c + 1) (s + N) v (w ++ [(q, .inl (o.G.ca 1, N, .inr (.inl (fun _ => 0))))]) pc' lv (.ref q :: st)) : tW o c s v w pc lv (.int n :: st) := by
  subst hp
  subst hn
  refine fun ls H locs hl' hH => va_newa (atype := .long) (ty := .long) (a0 := (N, .inr (.inl (fun _ => 0)))) hB.1 hB.2.1 (hB.at hw) rfl hB.K hH.1 hH.2.1 hH.2.2 (t_A hB) (fun cA => rfl) (nI_pos (by omega)) (nI_clamp (by omega)) (by show N * 8 ≤ 536870912; omega) hc hs hd (fun q cA H1 hK1 hP1 hD1 hS1 => ?_)
  have e : cA = o.G.ca 1 := t_ca hB (t0 := 1) rfl (fun n h => by cases h) hK1
  subst e
  refine kk q ls H1 locs hl' ?_
  rw [List.append_assoc] at hP1 hD1
  exact ⟨hP1, hD1, hS1⟩
theorem t_newi {N : Nat} {n : Int32} (hB : yB o b own) (hd : decode b pc = .ok (.newarray .int, 2)) (hp : pc + 2 = pc') (hw : Cond.arrayClass .int ∈ yL) (hn : n = nI N) (hN : N ≤ 4096) (hc : c + 1 ≤ o.R.cells) (hs : s + N ≤ o.R.slots)
    (kk : ∀ q : Nat, tW o (c + 1) (s + N) v (w ++ [(q, .inl (o.G.ca 0, N, .inl (fun _ => 0)))]) pc' lv (.ref q :: st)) : tW o c s v w pc lv (.int n :: st) := by
  subst hp
  subst hn
  refine fun ls H locs hl' hH => va_newa (atype := .int) (ty := .int) (a0 := (N, .inl (fun _ => 0))) hB.1 hB.2.1 (hB.at hw) rfl hB.K hH.1 hH.2.1 hH.2.2 (t_A hB) (fun cA => rfl) (nI_pos (by omega)) (nI_clamp (by omega)) (by show N * 4 ≤ 536870912; omega) hc hs hd (fun q cA H1 hK1 hP1 hD1 hS1 => ?_)
  have e : cA = o.G.ca 0 := t_ca hB (t0 := 0) rfl (fun n h => by cases h) hK1
  subst e
  refine kk q ls H1 locs hl' ?_
  rw [List.append_assoc] at hP1 hD1
  exact ⟨hP1, hD1, hS1⟩
/-- an array of four rows -/
theorem t_newq {ix : Nat} (hB : yB o b own) (hd : decode b pc = .ok (.anewarray ix, 3)) (hp : pc + 3 = pc') (hl : Cond.classLink own ix "OrderBench$Row" ∈ yL) (ho : va_AO "OrderBench$Row" o.s) (hc : c + 1 ≤ o.R.cells) (hs : s + 4 ≤ o.R.slots)
    (kk : ∀ q : Nat, tW o (c + 1) (s + 4) v (w ++ [(q, .inl (o.G.ca 2, 4, .inr (.inr (.inr (.inr (fun _ => none))))))]) pc' lv (.ref q :: st)) : tW o c s v w pc lv (.int (nI 4) :: st) := by
  subst hp
  refine fun ls H locs hl' hH => va_newq hB.1 hB.2.1 hB.2.2.1 (hB.at hl) ho hB.K hH.1 hH.2.1 hH.2.2 (t_A hB) (nI_pos (by decide)) (nI_clamp (n := 4) (by decide)) (by decide) hc hs hd (fun q cA H1 hK1 hP1 hD1 hS1 => ?_)
  have e : cA = o.G.ca 2 := by
    obtain ⟨-, -, -, -, -, a1⟩ := (hB.K.2 2 (o.G.ca 2, .object "OrderBench$Row") rfl).2
    obtain ⟨-, -, -, -, -, a2⟩ := (hK1.2 3 (cA, .object "OrderBench$Row") rfl).2
    exact Option.some.inj (a2.symm.trans a1)
  subst e
  refine kk q ls H1 locs hl' ?_
  rw [List.append_assoc] at hP1 hD1
  exact ⟨hP1, hD1, hS1⟩
theorem t_astq {k0 k1 j a x : Nat} {fs : List Value} {f : Nat → Option Nat} (hB : yB o b own) (hd : decode b pc = .ok (.aastore, 1)) (hp : pc + 1 = pc') (he : w[k0]? = some (a, .inl (o.G.ca 2, 4, .inr (.inr (.inr (.inr f)))))) (hx : w[k1]? = some (x, .inr (1, fs))) (hj : j < 4) (kk : tW o c s v (w.set k0 (a, .inl (o.G.ca 2, 4, .inr (.inr (.inr (.inr (va_up f j (some x)))))))) pc' lv st) : tW o c s v w pc lv (.ref x :: .int (nI j) :: .ref a :: st) := by
  subst hp
  refine fun ls H locs hl' hH => va_astq (r := ("OrderBench$Row", fT_R, 3)) hB.1 hB.2.1 hB.K hH.1 hH.2.1 hH.2.2 (v.length + k0) 2 (v.length + k1) 1 (t_at he) rfl (t_at hx) rfl (vp_in_nI hj (by decide)) hd (fun H1 locs1 hP1 hD1 hS1 => kk ls H1 locs1 hl' ?_)
  rw [t_setAt, nI_clamp (by omega)] at hP1 hD1
  exact ⟨hP1, hD1, hS1⟩
theorem t_obj {a ix : Nat} (hB : yB o b own) (hd : decode b pc = .ok (.invokespecial ix, 3)) (hp : pc + 3 = pc') (hl : Cond.methodLink own ix Lib.objectInit ∈ yL) (hi : Cond.instanceMethod Lib.objectInit ∈ yL) (hc : Cond.code Lib.objectInit ⟨#[0xb1]⟩ 1 none ∈ yL) (hf : 1 ≤ o.R.frames) (hlo : 8 + 12 ≤ o.R.locals) (hw : (st.map fun v => v.category).sum ≤ 8) (kk : tW o c s v w pc' lv st) : tW o c s v w pc lv (.ref a :: st) := by
  subst hp
  exact fun ls H locs hl' hH => W.objInit hB.1 hB.2.1 hB.2.2.1 (hB.at hl) (hB.at hi) (hB.at hc) rfl hl'.1 rfl hd hf (by show 2 * 0 + (st.map fun v => v.category).sum + 12 ≤ o.R.locals; omega) (kk ls H locs hl' hH)
end TR
def yRT (n mc ms : Nat) : Room := { frames := n, cells := mc, slots := ms, locals := 48 * n }
def tQ (g : YG) (post : va_W → Prop) : Array Value → State → Outcome → State → Prop := fun _ st oc t => (∃ w' : va_W, oc = .returned none ∧ post w' ∧ va_P g.D ycl w' t.heap ∧ va_D (yA g.B) w') ∧ va_F (yA g.B) st t
def tPre (g : YG) (w : va_W) (U : State) : Prop := yF g U ∧ va_AO "OrderBench$Row" U ∧ va_P g.D ycl w U.heap ∧ va_D (yA g.B) w
/-- A CONTRACT of a constructor -/
def tC (l : Launch) (y : MethodName) (b : ByteArray) (n lev mc ms : Nat) (g : YG) (as : List Value) (w : va_W) (post : va_W → Prop) : Prop :=
  Met l y [Cond.code y b n none] (yRT lev mc ms) (va_Pc as (tPre g w)) (tQ g post) mc ms (yA g.B)
def tE (o : YO) (n lev mc ms : Nat) (post : va_W → Prop) : Prop :=
  o.c.maxLocals = n ∧ o.meth.sig.returnType = none ∧ o.R = yRT lev mc ms ∧ o.Q = MQ o.below (tQ o.G post) o.args o.s mc ms (yA o.G.B) ∧ va_AO "OrderBench$Row" o.s ∧ o.meth.name = "<init>"
theorem tC_of {l : Launch} {y : MethodName} {b : ByteArray} {n lev mc ms : Nat} {g : YG} {as : List Value} {v w : va_W} {post : va_W → Prop} (hy : plainName y.cls = true) (hyi : y.name = "<init>") (hn : (lg_sl as).length ≤ n)
    (body : ∀ o : YO, o.l = l → o.G = g → yB o b y.cls → tE o n lev mc ms post → tW o 0 0 v w 0 (lv_args 0 as) []) : tC l y b n lev mc ms g as (v ++ w) post := by
  refine Met.ofW (cc := b) (maxL := n) (ret := none) hy rfl ?_
  intro p e s m args below meth c s₁ Bd hml hv
  obtain ⟨rfl, hF, hAO, hP, hD⟩ := hv
  have h1 := body (p, l, e, yRT lev mc ms, s, m, as.toArray, below, meth, c, 0, 0, MQ below (tQ g post) as.toArray s mc ms (yA g.B), g) rfl rfl ⟨Bd.exec, Bd.bytes, findClass_of_methodNamed Bd.named, Bd.notSynchronized, hF⟩ ⟨hml, Bd.returns, rfl, rfl, hAO, by rw [← hyi]; exact (name_of_methodNamed Bd.named Bd.method).1⟩
  rw [lg_entry_eq]
  have h2 := lv_entry as hn
  rw [← hml] at h2
  exact h1 _ s.heap [] (by rw [← hml]; exact h2) ⟨hP, hD, va_S.rf⟩
section TC
variable {o : YO} {b b1 : ByteArray} {own : String} {c s : Nat} {v w : va_W} {pc pc' n lev mc ms n1 lev1 mc1 ms1 ix k a : Nat} {lv : List (Nat × Value)} {st : List Value} {post post1 : va_W → Prop} {y : MethodName} {As rest : List Value}
theorem t_vret (hB : yB o b own) (hE : tE o n lev mc ms post) (hc : c ≤ mc) (hs : s ≤ ms) (hd : decode b pc = .ok (.return_, 1)) (h : post (v ++ w)) : tW o c s v w pc lv [] := by
  intro ls H locs hl hH
  obtain ⟨-, e1, -, e4, -⟩ := hE
  rw [e4]
  refine W.widen hc hs ?_
  exact W.vret hB.1 hB.2.1 e1 (fun t ht hW => ⟨⟨_, rfl, h, by rw [ht]; exact hH.1, hH.2.1⟩, hH.2.2.F ht⟩) hH.2.2.2.2 hd hB.2.2.2.1
theorem t_blind (g : YG) (w : va_W) (as : List Value) : FrameBlind (va_Pc as (tPre g w)) :=
  fun a U gg mk q => ⟨q.1, yF_warm (s := U) (U := U.calling gg mk a) (State.WarmedH.refl U) (Nat.le_refl _) (fun _ _ _ => rfl) q.2.1, va_AO.moved (u := U) (U := U.calling gg mk a) (State.WarmedH.refl U).alike q.2.2.1, q.2.2.2⟩
theorem t_pre (hB : yB o b own) (hAO : va_AO "OrderBench$Row" o.s) {H : Heap} {locs : List Loc} (hH : tH o v w H locs) : PreS o.s H (va_Pc As (tPre o.G (v ++ w))) As :=
  ⟨t_blind o.G _ As, fun U hU hW => ⟨rfl, yF_warm hW (by rw [hU]; exact hH.2.2.1) (by rw [hU]; exact hH.2.2.2.1) hB.2.2.2.2, va_AO.moved hW.alike hAO, by rw [hU]; exact hH.1, hH.2.1⟩⟩
theorem t_after {st0 : List Value} {aa : Array Value} {ls : Array Slot} {H : Heap} {locs : List Loc} (hr : va_Run o.p o.l o.e o.R o.s o.m o.args o.below o.meth o.c H locs c s mc1 ms1 (F0 o.m pc ls st0) rest (tQ o.G post1 aa) (yA o.G.B)) (hl : lv_has ls o.c.maxLocals lv) (hS : va_S (yA o.G.B) o.s.heap H locs)
    (kk : ∀ w' : va_W, post1 w' → ∃ v2 w2, w' = v2 ++ w2 ∧ tW o (c + mc1) (s + ms1) v2 w2 (pc + 3) lv rest) : W o.p o.l o.e o.R o.s o.m o.args o.below o.meth o.c H locs c s o.Q (F0 o.m pc ls st0) := by
  intro T hT X
  obtain ⟨x, st₀, t, T', L, h0, X', hL, e1, e2, ⟨⟨w', hv, hp, hb, hD⟩, hz, hk⟩, st⟩ := hr T hT X
  cases hv
  rw [h0] at hz hk
  obtain ⟨v2, w2, rfl, kk2⟩ := kk w' hp
  obtain ⟨t2, a1, b1⟩ := kk2 ls T'.heap (locs ++ L) hl ⟨by rw [e1]; exact hb, hD, Nat.le_trans hS.1 (by rw [e1]; exact hz), fun q h1 h2 => by rw [e1, hk q (Nat.lt_of_lt_of_le h1 hS.1) h2]; exact hS.2.1 q h1 h2, fun q hq => by
      rcases List.mem_append.mp hq with h | h
      · exact hS.2.2 q h
      · exact hL q h⟩ T' rfl X'
  exact ⟨t2, st t2 a1, b1⟩
theorem tk_call (hB : yB o b own) (hAO : va_AO "OrderBench$Row" o.s) (hF : yFit o lev1 n1) (hc : c + mc1 ≤ o.R.cells) (hs : s + ms1 ≤ o.R.slots) (hM : tC o.l y b1 n1 lev1 mc1 ms1 o.G (.ref a :: As) (v ++ w) post1) (hY : yM y b1 n1 none k) (hyi : y.name = "<init>") (wl : Cond.methodLink own ix y ∈ yL) (wi : Cond.instanceMethod y ∈ yL) (hd : decode b pc = .ok (.invokespecial ix, 3)) (hp : pc + 3 = pc') (hk : As.length = k) (hst : st = As.reverse ++ .ref a :: rest) (hw : (rest.map fun v => v.category).sum ≤ 8)
    (kk : ∀ w' : va_W, post1 w' → ∃ v2 w2, w' = v2 ++ w2 ∧ tW o (c + mc1) (s + ms1) v2 w2 pc' lv rest) : tW o c s v w pc lv st := by
  subst hp
  subst hst
  intro ls H locs hl hH
  exact t_after (va_runI ⟨hB.1, hB.2.1, rfl, hB.2.2.1, hB.ts⟩ hM ⟨⟨rfl, rfl, hF.1, hF.2, fun w hw' a' U hW => yT_warm hW hB.2.2.2.2.2.1 w (by rw [List.mem_singleton.mp hw']; exact hY.1) a', List.mem_singleton.mpr rfl, hB.at hY.1, hB.at hY.2.1, hY.2.2.1, y_len hY.2.2.2.1, hB.at wl⟩, hyi, hB.at wi⟩ (t_pre hB hAO hH) rfl hk hl.1 rfl (lv_room hw) hd ⟨hc, hs⟩) hl hH.2.2 kk
theorem tk_callN {host : String} (hB : yB o b own) (hAO : va_AO "OrderBench$Row" o.s) (hF : yFit o lev1 n1) (hc : c + mc1 ≤ o.R.cells) (hs : s + ms1 ≤ o.R.slots) (hM : tC o.l y b1 n1 lev1 mc1 ms1 o.G (.ref a :: As) (v ++ w) post1) (hY : yM y b1 n1 none k) (hyi : y.name = "<init>") (wl : Cond.methodLinkNest own ix y host ∈ yL) (wi : Cond.instanceMethod y ∈ yL) (hd : decode b pc = .ok (.invokespecial ix, 3)) (hp : pc + 3 = pc') (hk : As.length = k) (hst : st = As.reverse ++ .ref a :: rest) (hw : (rest.map fun v => v.category).sum ≤ 8)
    (kk : ∀ w' : va_W, post1 w' → ∃ v2 w2, w' = v2 ++ w2 ∧ tW o (c + mc1) (s + ms1) v2 w2 pc' lv rest) : tW o c s v w pc lv st := by
  subst hp
  subst hst
  intro ls H locs hl hH
  exact t_after (va_runIN ⟨hB.1, hB.2.1, rfl, hB.2.2.1, hB.ts⟩ hM ⟨⟨⟨rfl, rfl, hF.1, hF.2, fun w hw' a' U hW => yT_warm hW hB.2.2.2.2.2.1 w (by rw [List.mem_singleton.mp hw']; exact hY.1) a', List.mem_singleton.mpr rfl⟩, hB.at hY.1, hB.at hY.2.1, hY.2.2.1, y_len hY.2.2.2.1, hB.at wl⟩, hyi, hB.at wi⟩ (t_pre hB hAO hH) rfl hk hl.1 rfl (lv_room hw) hd ⟨hc, hs⟩) hl hH.2.2 kk
theorem tE.fit (hE : tE o n lev mc ms post) (hl : lev1 + 1 ≤ lev) (hn : n1 ≤ 29) : yFit o lev1 n1 := by
  unfold yFit
  rw [hE.2.2.1]
  exact ⟨hl, by show 8 + (n1 + 11) + 48 * lev1 ≤ 48 * lev; omega⟩
end TC
