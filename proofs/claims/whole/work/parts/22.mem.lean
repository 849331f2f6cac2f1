/-! MEMORY ROWS AND CONTRACTS over the calculus -/
section YM
variable {o : YO} {b : ByteArray} {own : String} {S : YS} {pc pc' : Nat} {lv : List (Nat × Value)} {st : List Value}
theorem yB.ts (hB : yB o b own) : ∀ w ∈ yL, w.before o.args o.s = true := fun w hw => hB.2.2.2.2.2.1 w hw _
theorem yB.at (hB : yB o b own) {w : Cond} (hw : w ∈ yL) : w.before o.args o.s = true := hB.2.2.2.2.2.1 w hw _
theorem yB.K (hB : yB o b own) : va_K o.G.D ycl (yt o.G.ca) o.s := hB.2.2.2.2.1
theorem y_get {c ci k ix N : Nat} {C : String} {T : u_T} {v : Value} (hB : yB o b own) (hd : decode b pc = .ok (.getfield ix, 3)) (hp : pc + 3 = pc') (hc : c < yN) (he : yk c = (0, ci)) (hcl : ycl[ci]? = some (C, T, N)) (hin : ∀ w ∈ u_ws C T N, w ∈ yL) (hk : k < N) (hl : Cond.fieldLink own ix C (T k).2.1 (T k).2.2.1 ∈ yL) (hT : (T k).1 = C) (hv : (yo o.G.ad S c)[k]? = some v) (kk : yW o S pc' lv (v :: st)) : yW o S pc lv (.ref (o.G.ad c) :: st) := by
  subst hp
  exact fun ls H locs hl' hH => va_get hB.1 hB.2.1 hB.ts hin hB.2.2.1 hB.K hH.1 c ((yw_get hc).trans (by rw [yc_o he])) hcl k hk (hB.at hl) (fun x hx => by rw [hT] at hx; exact hx) hv hd (kk ls H locs hl' hH)
theorem y_put {c ci k ix N : Nat} {C : String} {T : u_T} {x : Int32} {ty : FieldType} (hB : yB o b own) (hd : decode b pc = .ok (.putfield ix, 3)) (hp : pc + 3 = pc') (hc : c < yN) (he : yk c = (0, ci)) (hcl : ycl[ci]? = some (C, T, N)) (hin : ∀ w ∈ u_ws C T N, w ∈ yL) (ty0 : Nat → FieldType) (hty : ∀ k, k < N → parseFieldDescriptor (T k).2.2.1 = some (ty0 k)) (hnm : ∀ a, a < N → ∀ b, b < N → a ≠ b → (T a).2.1 ≠ (T b).2.1) (hk : k < N) (hl : Cond.fieldLink own ix C (T k).2.1 (T k).2.2.1 ∈ yL) (hT : (T k).1 = C) (hfin : (T k).2.2.2 = false) (htk : parseFieldDescriptor (T k).2.2.1 = some ty) (hn : narrow ty (.int x) = .int x) (hf : fits ty (.int x) = true) (hlen : k < (yo o.G.ad S c).length) (hyo : yo o.G.ad (sF S c k x) c = (yo o.G.ad S c).set k (.int x)) (kk : yW o (sF S c k x) pc' lv st) : yW o S pc lv (.int x :: .ref (o.G.ad c) :: st) := by
  subst hp
  refine fun ls H locs hl' hH => va_put hB.1 hB.2.1 hB.ts hin ty0 hty hnm hB.2.2.1 hB.K hH.1 (yw_D hB.2.2.2.2 S) hH.2 c ((yw_get hc).trans (by rw [yc_o he])) hcl k hk (hB.at hl) (fun x hx => by rw [hT] at hx; exact hx) hfin htk hn hf hlen hd (fun H1 locs1 hP1 _ hS1 => kk ls H1 locs1 hl' ⟨?_, hS1⟩)
  rw [← yw_set (S' := sF S c k x) hc (by rw [yc_o he, hyo]) (fun i hi hne => yc_sF hne hi)]
  exact hP1
theorem y_lald {c n j : Nat} (hB : yB o b own) (hd : decode b pc = .ok (.laload, 1)) (hp : pc + 1 = pc') (hc : c < yN) (he : yk c = (1, n)) (hj : j < n) (hn : n < 2 ^ 31) (kk : yW o S pc' lv (.long (gL S c j) :: st)) : yW o S pc lv (.int (nI j) :: .ref (o.G.ad c) :: st) := by
  subst hp
  refine fun ls H locs hl' hH => va_lald hB.1 hB.2.1 hB.K hH.1 c 1 ((yw_get hc).trans (by rw [yc_L he])) rfl (vp_in_nI hj hn) hd ?_
  rw [nI_clamp (by omega)]
  exact kk ls H locs hl' hH
theorem y_iald {c n j : Nat} (hB : yB o b own) (hd : decode b pc = .ok (.iaload, 1)) (hp : pc + 1 = pc') (hc : c < yN) (he : yk c = (2, n)) (hj : j < n) (hn : n < 2 ^ 31) (kk : yW o S pc' lv (.int (gI S c j) :: st)) : yW o S pc lv (.int (nI j) :: .ref (o.G.ad c) :: st) := by
  subst hp
  refine fun ls H locs hl' hH => va_iald hB.1 hB.2.1 hB.K hH.1 c 0 ((yw_get hc).trans (by rw [yc_I he])) rfl (vp_in_nI hj hn) hd ?_
  rw [nI_clamp (by omega)]
  exact kk ls H locs hl' hH
theorem y_aald {j : Nat} (hB : yB o b own) (hd : decode b pc = .ok (.aaload, 1)) (hp : pc + 1 = pc') (hj : j < 4) (kk : yW o S pc' lv (.ref (o.G.ad (2 + j)) :: st)) : yW o S pc lv (.int (nI j) :: .ref (o.G.ad 1) :: st) := by
  subst hp
  refine fun ls H locs hl' hH => va_aldq (C := "OrderBench$Row") (f := fun i => some (o.G.ad (2 + i))) hB.1 hB.2.1 hB.K hH.1 1 2 ((yw_get (by decide)).trans (by rw [yc_R])) rfl (vp_in_nI hj (by decide)) hd ?_
  rw [nI_clamp (by omega)]
  exact kk ls H locs hl' hH
theorem y_last {c n j : Nat} {x : Int64} (hB : yB o b own) (hd : decode b pc = .ok (.lastore, 1)) (hp : pc + 1 = pc') (hc : c < yN) (he : yk c = (1, n)) (hj : j < n) (hn : n < 2 ^ 31) (kk : yW o (sL S c (vp_updL (gL S c) j x)) pc' lv st) : yW o S pc lv (.long x :: .int (nI j) :: .ref (o.G.ad c) :: st) := by
  subst hp
  refine fun ls H locs hl' hH => va_last hB.1 hB.2.1 hB.K hH.1 (yw_D hB.2.2.2.2 S) hH.2 c 1 ((yw_get hc).trans (by rw [yc_L he])) rfl (vp_in_nI hj hn) hd (fun H1 locs1 hP1 _ hS1 => kk ls H1 locs1 hl' ⟨?_, hS1⟩)
  rw [nI_clamp (by omega)] at hP1
  rw [← yw_set (S' := sL S c (vp_updL (gL S c) j x)) hc (by rw [yc_L he, gL_sL, if_pos rfl]) (fun i _ hne => yc_sL hne)]
  exact hP1
theorem y_iast {c n j : Nat} {x : Int32} (hB : yB o b own) (hd : decode b pc = .ok (.iastore, 1)) (hp : pc + 1 = pc') (hc : c < yN) (he : yk c = (2, n)) (hj : j < n) (hn : n < 2 ^ 31) (kk : yW o (sI S c (upd (gI S c) j x)) pc' lv st) : yW o S pc lv (.int x :: .int (nI j) :: .ref (o.G.ad c) :: st) := by
  subst hp
  refine fun ls H locs hl' hH => va_iast hB.1 hB.2.1 hB.K hH.1 (yw_D hB.2.2.2.2 S) hH.2 c 0 ((yw_get hc).trans (by rw [yc_I he])) rfl (vp_in_nI hj hn) hd (fun H1 locs1 hP1 _ hS1 => kk ls H1 locs1 hl' ⟨?_, hS1⟩)
  rw [nI_clamp (by omega)] at hP1
  rw [← yw_set (S' := sI S c (upd (gI S c) j x)) hc (by rw [yc_I he, gI_sI, if_pos rfl]) (fun i _ hne => yc_sI hne)]
  exact hP1
/-- a room by levels -/
def yR (n : Nat) : Room := { frames := n, cells := 0, slots := 0, locals := 48 * n }
/-- System.arraycopy of longs, of ints -/
theorem y_copyl {c0 c1 n0 n1 sp dp n ix lev : Nat} (hB : yB o b own) (hR : o.R = yR (lev + 1)) (hd : decode b pc = .ok (.invokestatic ix, 3)) (hp : pc + 3 = pc') (hl : Cond.methodLink own ix arraycopyName ∈ yL) (w1 : Cond.native arraycopyName ∈ yL) (w2 : Cond.static arraycopyName ∈ yL) (w3 : Cond.initialized "java/lang/System" ∈ yL) (hc0 : c0 < yN) (hc1 : c1 < yN) (he0 : yk c0 = (1, n0)) (he1 : yk c1 = (1, n1)) (h0 : sp + n ≤ n0) (h1 : dp + n ≤ n1) (hn0 : n0 < 2 ^ 31) (hn1 : n1 < 2 ^ 31) (kk : yW o (sL S c1 (va_cpy (gL S c0) (gL S c1) sp dp n)) pc' lv []) : yW o S pc lv (.int (nI n) :: .int (nI dp) :: .ref (o.G.ad c1) :: .int (nI sp) :: .ref (o.G.ad c0) :: []) := by
  subst hp
  refine fun ls H locs hl' hH => va_copyl (ty := .long) (f := gL S c0) (g := gL S c1) hB.1 hB.2.1 hl'.1.symm hB.2.2.1 (hB.at hl) (hB.at w1) (hB.at w2) (hB.at w3) hB.K hH.1 (yw_D hB.2.2.2.2 S) hH.2 c0 c1 1 1 ((yw_get hc0).trans (by rw [yc_L he0])) ((yw_get hc1).trans (by rw [yc_L he1])) rfl rfl rfl (nI_pos (by omega)) (nI_pos (by omega)) (nI_pos (by omega)) (by rw [nI_clamp (by omega), nI_clamp (by omega)]; exact h0) (by rw [nI_clamp (by omega), nI_clamp (by omega)]; exact h1) (fun _ _ => rfl) (by rw [hR]; simp [yR]) (by rw [hR]; simp [yR, nativeFrameWords]; omega) hd (fun H1 locs1 hP1 _ hS1 => kk ls H1 locs1 hl' ⟨?_, hS1⟩)
  rw [nI_clamp (by omega), nI_clamp (by omega), nI_clamp (by omega)] at hP1
  rw [← yw_set (S' := sL S c1 (va_cpy (gL S c0) (gL S c1) sp dp n)) hc1 (by rw [yc_L he1, gL_sL, if_pos rfl]) (fun i _ hne => yc_sL hne)]
  exact hP1
theorem y_copyi {c0 c1 n0 n1 sp dp n ix lev : Nat} (hB : yB o b own) (hR : o.R = yR (lev + 1)) (hd : decode b pc = .ok (.invokestatic ix, 3)) (hp : pc + 3 = pc') (hl : Cond.methodLink own ix arraycopyName ∈ yL) (w1 : Cond.native arraycopyName ∈ yL) (w2 : Cond.static arraycopyName ∈ yL) (w3 : Cond.initialized "java/lang/System" ∈ yL) (hc0 : c0 < yN) (hc1 : c1 < yN) (he0 : yk c0 = (2, n0)) (he1 : yk c1 = (2, n1)) (h0 : sp + n ≤ n0) (h1 : dp + n ≤ n1) (hn0 : n0 < 2 ^ 31) (hn1 : n1 < 2 ^ 31) (kk : yW o (sI S c1 (va_cpy (gI S c0) (gI S c1) sp dp n)) pc' lv []) : yW o S pc lv (.int (nI n) :: .int (nI dp) :: .ref (o.G.ad c1) :: .int (nI sp) :: .ref (o.G.ad c0) :: []) := by
  subst hp
  refine fun ls H locs hl' hH => va_copyi (ty := .int) (f := gI S c0) (g := gI S c1) hB.1 hB.2.1 hl'.1.symm hB.2.2.1 (hB.at hl) (hB.at w1) (hB.at w2) (hB.at w3) hB.K hH.1 (yw_D hB.2.2.2.2 S) hH.2 c0 c1 0 0 ((yw_get hc0).trans (by rw [yc_I he0])) ((yw_get hc1).trans (by rw [yc_I he1])) rfl rfl rfl (nI_pos (by omega)) (nI_pos (by omega)) (nI_pos (by omega)) (by rw [nI_clamp (by omega), nI_clamp (by omega)]; exact h0) (by rw [nI_clamp (by omega), nI_clamp (by omega)]; exact h1) (fun _ _ => rfl) (by rw [hR]; simp [yR]) (by rw [hR]; simp [yR, nativeFrameWords]; omega) hd (fun H1 locs1 hP1 _ hS1 => kk ls H1 locs1 hl' ⟨?_, hS1⟩)
  rw [nI_clamp (by omega), nI_clamp (by omega), nI_clamp (by omega)] at hP1
  rw [← yw_set (S' := sI S c1 (va_cpy (gI S c0) (gI S c1) sp dp n)) hc1 (by rw [yc_I he1, gI_sI, if_pos rfl]) (fun i _ hne => yc_sI hne)]
  exact hP1
end YM
/-- a method's end: what it returned and the state behind it; nothing ahead of B has changed -/
def yQ (g : YG) (post : Option Value → YS → Prop) : Array Value → State → Outcome → State → Prop := fun _ st oc t => (∃ (v : Option Value) (S' : YS), oc = .returned v ∧ post v S' ∧ va_P g.D ycl (yw g S') t.heap) ∧ va_F (yA g.B) st t
/-- A CONTRACT: method y (bytes b, n locals, level lev), with arguments as, from the state S: returns with 'post' -/
def yC (l : Launch) (y : MethodName) (b : ByteArray) (n : Nat) (ret : Option FieldType) (lev : Nat) (g : YG) (as : List Value) (S : YS) (post : Option Value → YS → Prop) : Prop :=
  Met l y [Cond.code y b n ret] (yR lev) (va_Pc as (fun U => yF g U ∧ va_P g.D ycl (yw g S) U.heap)) (yQ g post) 0 0 (yA g.B)
/-- what a walk of a contract knows of its end -/
def yE (o : YO) (n : Nat) (ret : Option FieldType) (lev : Nat) (post : Option Value → YS → Prop) : Prop :=
  o.c.maxLocals = n ∧ o.meth.sig.returnType = ret ∧ o.R = yR lev ∧ o.cells = 0 ∧ o.slots = 0 ∧ o.Q = MQ o.below (yQ o.G post) o.args o.s 0 0 (yA o.G.B)
theorem yC_of {l : Launch} {y : MethodName} {b : ByteArray} {n : Nat} {ret : Option FieldType} {lev : Nat} {g : YG} {as : List Value} {S : YS} {post : Option Value → YS → Prop} (hy : plainName y.cls = true) (hn : (lg_sl as).length ≤ n)
    (body : ∀ o : YO, o.l = l → o.G = g → yB o b y.cls → yE o n ret lev post → yW o S 0 (lv_args 0 as) []) : yC l y b n ret lev g as S post := by
  refine Met.ofW (cc := b) (maxL := n) (ret := ret) hy rfl ?_
  intro p e s m args below meth c s₁ Bd hml hv
  obtain ⟨rfl, hF, hP⟩ := hv
  have h1 := body (p, l, e, yR lev, s, m, as.toArray, below, meth, c, 0, 0, MQ below (yQ g post) as.toArray s 0 0 (yA g.B), g) rfl rfl ⟨Bd.exec, Bd.bytes, findClass_of_methodNamed Bd.named, Bd.notSynchronized, hF⟩ ⟨hml, Bd.returns, rfl, rfl, rfl, rfl⟩
  rw [lg_entry_eq]
  have h2 := lv_entry as hn
  rw [← hml] at h2
  exact h1 _ s.heap [] (by rw [← hml]; exact h2) ⟨hP, va_S.rf⟩
/-- a stronger end gives a weaker one -/
theorem yC.mono {l : Launch} {y : MethodName} {b : ByteArray} {n : Nat} {ret : Option FieldType} {lev : Nat} {g : YG} {as : List Value} {S : YS} {post post' : Option Value → YS → Prop} (h : yC l y b n ret lev g as S post) (hp : ∀ v S', post v S' → post' v S') : yC l y b n ret lev g as S post' := by
  intro p e ha hc hk s m args below hf happ hP hK
  obtain ⟨n, oc, h1, h2, h3, ⟨⟨⟨v, S', q1, q2, q3⟩, q4⟩, q5⟩⟩ := h p e ha hc hk s m args below hf happ hP hK
  exact ⟨n, oc, h1, h2, h3, ⟨⟨⟨v, S', q1, hp v S' q2, q3⟩, q4⟩, q5⟩⟩
section YT
variable {o : YO} {b : ByteArray} {own : String} {S : YS} {pc pc' n lev : Nat} {lv : List (Nat × Value)} {st : List Value} {ret : Option FieldType} {post : Option Value → YS → Prop}
theorem y_iret {v : Int32} (hB : yB o b own) (hE : yE o n (some .int) lev post) (hd : decode b pc = .ok (.ireturn, 1)) (h : post (some (.int v)) S) : yW o S pc lv [.int v] := by
  intro ls H locs hl hH
  obtain ⟨-, e1, -, e2, e3, e4⟩ := hE
  rw [e4, e2, e3]
  exact W.iret hB.1 hB.2.1 e1 (fun t ht hW => ⟨⟨_, S, rfl, h, by rw [ht]; exact hH.1⟩, hH.2.F ht⟩) hH.2.2.2 hd hB.2.2.2.1
theorem y_lret {v : Int64} (hB : yB o b own) (hE : yE o n (some .long) lev post) (hd : decode b pc = .ok (.lreturn, 1)) (h : post (some (.long v)) S) : yW o S pc lv [.long v] := by
  intro ls H locs hl hH
  obtain ⟨-, e1, -, e2, e3, e4⟩ := hE
  rw [e4, e2, e3]
  exact W.lret hB.1 hB.2.1 e1 (fun t ht hW => ⟨⟨_, S, rfl, h, by rw [ht]; exact hH.1⟩, hH.2.F ht⟩) hH.2.2.2 hd hB.2.2.2.1
theorem y_zret {v : Int32} (hB : yB o b own) (hE : yE o n (some .boolean) lev post) (hd : decode b pc = .ok (.ireturn, 1)) (hv : v = 0 ∨ v = 1) (h : post (some (.int v)) S) : yW o S pc lv [.int v] := by
  intro ls H locs hl hH
  obtain ⟨-, e1, -, e2, e3, e4⟩ := hE
  rw [e4, e2, e3]
  exact W.zret hB.1 hB.2.1 e1 (by rcases hv with rfl | rfl <;> rfl) (fun t ht hW => ⟨⟨_, S, rfl, h, by rw [ht]; exact hH.1⟩, hH.2.F ht⟩) hH.2.2.2 hd hB.2.2.2.1
theorem y_vret (hB : yB o b own) (hE : yE o n none lev post) (hd : decode b pc = .ok (.return_, 1)) (h : post none S) : yW o S pc lv [] := by
  intro ls H locs hl hH
  obtain ⟨-, e1, -, e2, e3, e4⟩ := hE
  rw [e4, e2, e3]
  exact W.vret hB.1 hB.2.1 e1 (fun t ht hW => ⟨⟨_, S, rfl, h, by rw [ht]; exact hH.1⟩, hH.2.F ht⟩) hH.2.2.2 hd hB.2.2.2.1
theorem y_aret {a : Nat} {C : String} (hB : yB o b own) (hE : yE o n (some (.object C)) lev post) (hd : decode b pc = .ok (.areturn, 1)) (h : post (some (.ref a)) S) : yW o S pc lv [.ref a] := by
  intro ls H locs hl hH
  obtain ⟨-, e1, -, e2, e3, e4⟩ := hE
  rw [e4, e2, e3]
  exact W.aret hB.1 hB.2.1 e1 (Or.inl ⟨_, rfl⟩) (Or.inr ⟨_, rfl⟩) (fun t ht hW => ⟨⟨_, S, rfl, h, by rw [ht]; exact hH.1⟩, hH.2.F ht⟩) hH.2.2.2 hd hB.2.2.2.1
/-- behind a call -/
theorem y_after {post1 : Option Value → YS → Prop} {st0 rest : List Value} {a : Array Value} {ls : Array Slot} {H : Heap} {locs : List Loc} (hr : va_Run o.p o.l o.e o.R o.s o.m o.args o.below o.meth o.c H locs o.cells o.slots 0 0 (F0 o.m pc ls st0) rest (yQ o.G post1 a) (yA o.G.B)) (hl : lv_has ls o.c.maxLocals lv) (hS : va_S (yA o.G.B) o.s.heap H locs)
    (kk : ∀ (v : Option Value) (S' : YS), post1 v S' → yW o S' (pc + 3) lv (v.toList ++ rest)) : W o.p o.l o.e o.R o.s o.m o.args o.below o.meth o.c H locs o.cells o.slots o.Q (F0 o.m pc ls st0) := by
  intro T hT X
  obtain ⟨v, st₀, t, T', L, h0, X', hL, e1, e2, ⟨⟨v', S', hv, hp, hb⟩, hz, hk⟩, st⟩ := hr T hT X
  cases hv
  rw [h0] at hz hk
  obtain ⟨t2, a1, b1⟩ := kk v S' hp ls T'.heap (locs ++ L) hl ⟨by rw [e1]; exact hb, Nat.le_trans hS.1 (by rw [e1]; exact hz), fun q h1 h2 => by rw [e1, hk q (Nat.lt_of_lt_of_le h1 hS.1) h2]; exact hS.2.1 q h1 h2, fun q hq => by
      rcases List.mem_append.mp hq with h | h
      · exact hS.2.2 q h
      · exact hL q h⟩ T' rfl X'
  exact ⟨t2, st t2 a1, b1⟩
end YT
