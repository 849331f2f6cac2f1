/-! THROWING: contracts of methods that throw, calls of them, catching, and contracts of methods with handlers -/
/-- a room with one cell and six slots -/
def yRX (n : Nat) : Room := { frames := n, cells := 1, slots := 6, locals := 48 * n }
def yZ (g : YG) (E : String) (post : YS → Prop) : String → State → State → Prop := fun E' st t => E' = E ∧ (∃ S' : YS, post S' ∧ va_P g.D ycl (yw g S') t.heap) ∧ va_F (yA g.B) st t
def yNo : Array Value → State → Outcome → State → Prop := fun _ _ _ _ => False
/-- A CONTRACT: the method throws E, the state behind it is as 'post' says -/
def yX (l : Launch) (y : MethodName) (b : ByteArray) (n : Nat) (ret : Option FieldType) (lev : Nat) (g : YG) (as : List Value) (S : YS) (E : String) (post : YS → Prop) : Prop :=
  vx_Met l y [Cond.code y b n ret] (yRX lev) (va_Pc as (fun U => yF g U ∧ va_P g.D ycl (yw g S) U.heap)) yNo (yZ g E post) 1 6 (yA g.B)
def yEX (o : YO) (n : Nat) (ret : Option FieldType) (lev : Nat) (E : String) (post : YS → Prop) : Prop :=
  o.c.maxLocals = n ∧ o.meth.sig.returnType = ret ∧ o.R = yRX lev ∧ o.cells = 0 ∧ o.slots = 0 ∧ o.Q = vx_MQ o.below yNo (yZ o.G E post) o.args o.s 1 6 (yA o.G.B) ∧ (∀ x ∈ o.c.exceptionTable.toList, False) ∧ o.l.stackTraces = false
theorem yX_of {l : Launch} {y : MethodName} {b : ByteArray} {n : Nat} {ret : Option FieldType} {lev : Nat} {g : YG} {as : List Value} {S : YS} {E : String} {post : YS → Prop} (hs : l.stackTraces = false) (hy : plainName y.cls = true) (hn : (lg_sl as).length ≤ n)
    (body : ∀ o : YO, o.l = l → o.G = g → yB o b y.cls → yEX o n ret lev E post → yW o S 0 (lv_args 0 as) []) : yX l y b n ret lev g as S E post := by
  refine vx_ofW (cc := b) (maxL := n) (ret := ret) hy rfl ?_
  intro p e s m args below meth c s₁ Bd hml ht hv
  obtain ⟨rfl, hF, hP⟩ := hv
  have h1 := body (p, l, e, yRX lev, s, m, as.toArray, below, meth, c, 0, 0, vx_MQ below yNo (yZ g E post) as.toArray s 1 6 (yA g.B), g) rfl rfl ⟨Bd.exec, Bd.bytes, findClass_of_methodNamed Bd.named, Bd.notSynchronized, hF⟩ ⟨hml, Bd.returns, rfl, rfl, rfl, rfl, ht, hs⟩
  rw [lg_entry_eq]
  have h2 := lv_entry as hn
  rw [← hml] at h2
  exact h1 _ s.heap [] (by rw [← hml]; exact h2) ⟨hP, va_S.rf⟩
def xnm : List String := ["java/lang/RuntimeException", "java/lang/Exception"]
/-- the words of a throw out of the class -/
def xOk (ik ic : Nat) (cls : String) : Prop := Bundle.fit cls = true ∧ Cond.classLink "OrderBench" ik cls ∈ yL ∧ Cond.initialized cls ∈ yL ∧ (∀ w ∈ vx_atS "OrderBench" ic cls xnm, w ∈ yL) ∧ ∀ w ∈ Cond.classLink "OrderBench" ik cls :: Cond.initialized cls :: vx_atS "OrderBench" ic cls xnm, vx_ot w = true
theorem xOk_I : xOk 213 217 yXI := ⟨by decide +kernel, by decide +kernel, by decide +kernel, by decide +kernel, by decide +kernel⟩
theorem xOk_S : xOk 57 61 yXS := ⟨by decide +kernel, by decide +kernel, by decide +kernel, by decide +kernel, by decide +kernel⟩
theorem xOk_A : xOk 68 72 yXA := ⟨by decide +kernel, by decide +kernel, by decide +kernel, by decide +kernel, by decide +kernel⟩
section YX
variable {o : YO} {b b1 : ByteArray} {own : String} {S : YS} {pc pc' n lev n1 lev1 k ix : Nat} {lv : List (Nat × Value)} {st : List Value} {ret ret1 : Option FieldType} {post : YS → Prop} {E : String} {y : MethodName} {As rest : List Value}
theorem y_throw {ik is ic : Nat} {cls text : String} (hB : yB o b "OrderBench") (hE : yEX o n ret lev cls post) (hlev : 6 ≤ lev) (hw : xOk ik ic cls) (hstr : (is, text) ∈ ystr) (d0 : decode b pc = .ok (.new ik, 3)) (d3 : decode b (pc + 3) = .ok (.dup, 1)) (d4 : decode b (pc + 4) = .ok (.ldc is, 2)) (d6 : decode b (pc + 6) = .ok (.invokespecial ic, 3)) (d9 : decode b (pc + 9) = .ok (.athrow, 1)) (h : post S) : yW o S pc lv [] := by
  intro ls H locs hl hH
  obtain ⟨e0, e1, e2, e3, e4, e5, e6, e7⟩ := hE
  obtain ⟨w1, w2, w3, w4, w5⟩ := hw
  obtain ⟨-, x1, x2, x3, -⟩ := hB.2.2.2.2.2.2.2.2.2
  obtain ⟨sa, hsa⟩ := x3 _ hstr
  rw [e5]
  refine vx_throwS (cc := b) (own := "OrderBench") (cls := cls) (text := text) (names := xnm) (ik := ik) (is := is) (ic := ic) (sa := sa) (A := yA o.G.B) hB.1 hB.2.1 e7 hB.2.2.1 w1 (by decide) (hB.at w2) (hB.at w3) hsa (fun w hw' => hB.at (w4 w hw')) w5 x1 x2 hH.2 hl.1 d0 d3 d4 d6 d9 (fun x hx => (e6 x hx).elim) ?_ ?_ ?_ ?_ hB.2.2.2.1 ?_ hH.2.2.2 (by rw [e3]; omega) (by rw [e4]; omega)
  · rw [e2]; show 2 + 3 < lev; omega
  · rw [e2]; show 0 + (13 * (2 + 1) + 43) ≤ 48 * lev; omega
  · rw [e2, e3]; exact Nat.le_refl _
  · rw [e2, e4]; exact Nat.le_refl _
  · intro t _ hz hk
    refine ⟨rfl, ⟨S, h, ?_⟩, Nat.le_trans hH.2.1 hz, fun q h1 h2 => ?_⟩
    · exact va_P.kept hH.1 (fun j q hq => hk q.1 (vx_lt hH.1 hq))
    · rw [hk q (Nat.lt_of_lt_of_le h1 hH.2.1)]; exact hH.2.2.1 q h1 h2
/-- where a callee finds room -/
def yFit (o : YO) (lev1 n1 : Nat) : Prop := lev1 + 1 ≤ o.R.frames ∧ 8 + (n1 + 11) + 48 * lev1 ≤ o.R.locals
theorem yEX.fit {n : Nat} (hE : yEX o n ret lev E post) (hl : lev1 + 1 ≤ lev) (hn : n1 ≤ 29) : yFit o lev1 n1 := by
  unfold yFit
  rw [hE.2.2.1]
  exact ⟨hl, by show 8 + (n1 + 11) + 48 * lev1 ≤ 48 * lev; omega⟩
/-- room for so many cells and slots more -/
def yRm (o : YO) (mc ms : Nat) : Prop := o.cells + mc ≤ o.R.cells ∧ o.slots + ms ≤ o.R.slots
theorem yEX.rm (hE : yEX o n ret lev E post) {mc ms : Nat} (h1 : mc ≤ 1) (h2 : ms ≤ 6) : yRm o mc ms := by
  unfold yRm
  rw [hE.2.2.1, hE.2.2.2.1, hE.2.2.2.2.1]
  exact ⟨by show 0 + mc ≤ 1; omega, by show 0 + ms ≤ 6; omega⟩
theorem y_gS {post1 : Option Value → YS → Prop} (hB : yB o b own) (hF : yFit o lev1 n1) (h0 : yRm o 0 0) (hM : yC o.l y b1 n1 ret1 lev1 o.G As S post1) (hY : yM y b1 n1 ret1 k) (wl : Cond.methodLink own ix y ∈ yL) (ws : Cond.static y ∈ yL) (hd : decode b pc = .ok (.invokestatic ix, 3)) (hp : pc + 3 = pc') (hk : As.length = k) (hst : st = As.reverse ++ rest) (hw : (rest.map fun v => v.category).sum ≤ 8)
    (kk : ∀ (v : Option Value) (S' : YS), post1 v S' → yW o S' pc' lv (v.toList ++ rest)) : yW o S pc lv st := by
  subst hp
  subst hst
  intro ls H locs hl hH
  exact y_after (va_runS ⟨hB.1, hB.2.1, rfl, hB.2.2.1, hB.ts⟩ hM ⟨⟨rfl, rfl, hF.1, hF.2, fun w hw' a' U hW => yT_warm hW hB.2.2.2.2.2.1 w (by rw [List.mem_singleton.mp hw']; exact hY.1) a', List.mem_singleton.mpr rfl, hB.at hY.1, hB.at hY.2.1, hY.2.2.1, y_len hY.2.2.2.1, hB.at wl⟩, hB.at ws⟩ (y_pre hB hH) rfl hk hl.1 rfl (lv_room hw) hd h0) hl hH.2 kk
theorem y_gSN {host : String} {post1 : Option Value → YS → Prop} (hB : yB o b own) (hF : yFit o lev1 n1) (h0 : yRm o 0 0) (hM : yC o.l y b1 n1 ret1 lev1 o.G As S post1) (hY : yM y b1 n1 ret1 k) (wl : Cond.methodLinkNest own ix y host ∈ yL) (ws : Cond.static y ∈ yL) (hd : decode b pc = .ok (.invokestatic ix, 3)) (hp : pc + 3 = pc') (hk : As.length = k) (hst : st = As.reverse ++ rest) (hw : (rest.map fun v => v.category).sum ≤ 8)
    (kk : ∀ (v : Option Value) (S' : YS), post1 v S' → yW o S' pc' lv (v.toList ++ rest)) : yW o S pc lv st := by
  subst hp
  subst hst
  intro ls H locs hl hH
  exact y_after (va_runSN ⟨hB.1, hB.2.1, rfl, hB.2.2.1, hB.ts⟩ hM ⟨⟨⟨rfl, rfl, hF.1, hF.2, fun w hw' a' U hW => yT_warm hW hB.2.2.2.2.2.1 w (by rw [List.mem_singleton.mp hw']; exact hY.1) a', List.mem_singleton.mpr rfl⟩, hB.at hY.1, hB.at hY.2.1, hY.2.2.1, y_len hY.2.2.2.1, hB.at wl⟩, hB.at ws, trivial⟩ (y_pre hB hH) rfl hk hl.1 rfl (lv_room hw) hd h0) hl hH.2 kk
theorem y_gV {c ci N : Nat} {C : String} {T : u_T} {post1 : Option Value → YS → Prop} (hB : yB o b own) (hF : yFit o lev1 n1) (h0 : yRm o 0 0) (hM : yC o.l y b1 n1 ret1 lev1 o.G (.ref (o.G.ad c) :: As) S post1) (hY : yM y b1 n1 ret1 k) (wl : Cond.methodLink own ix y ∈ yL) (wi : Cond.instanceMethod y ∈ yL) (ws : Cond.selects C y y ∈ yL) (hc : c < yN) (he : yk c = (0, ci)) (hcl : ycl[ci]? = some (C, T, N)) (hd : decode b pc = .ok (.invokevirtual ix, 3)) (hp : pc + 3 = pc') (hk : As.length = k) (hst : st = As.reverse ++ .ref (o.G.ad c) :: rest) (hw : (rest.map fun v => v.category).sum ≤ 8)
    (kk : ∀ (v : Option Value) (S' : YS), post1 v S' → yW o S' pc' lv (v.toList ++ rest)) : yW o S pc lv st := by
  subst hp
  subst hst
  intro ls H locs hl hH
  have hpre := y_pre (As := .ref (o.G.ad c) :: As) hB hH
  exact y_after (va_runV ⟨hB.1, hB.2.1, rfl, hB.2.2.1, hB.ts⟩ hM ⟨⟨rfl, rfl, hF.1, hF.2, fun w hw' a' U hW => yT_warm hW hB.2.2.2.2.2.1 w (by rw [List.mem_singleton.mp hw']; exact hY.1) a', List.mem_singleton.mpr rfl, hB.at hY.1, hB.at hY.2.1, hY.2.2.1, y_len hY.2.2.2.1, hB.at wl⟩, hB.at wi, hB.at ws⟩ ⟨hpre.1, y_recv hB hH hc he hcl, hpre.2⟩ rfl hk hl.1 rfl (lv_room hw) hd h0) hl hH.2 kk
theorem y_gVN {host : String} {c ci N : Nat} {C : String} {T : u_T} {post1 : Option Value → YS → Prop} (hB : yB o b own) (hF : yFit o lev1 n1) (h0 : yRm o 0 0) (hM : yC o.l y b1 n1 ret1 lev1 o.G (.ref (o.G.ad c) :: As) S post1) (hY : yM y b1 n1 ret1 k) (wl : Cond.methodLinkNest own ix y host ∈ yL) (wi : Cond.instanceMethod y ∈ yL) (ws : Cond.selects C y y ∈ yL) (hc : c < yN) (he : yk c = (0, ci)) (hcl : ycl[ci]? = some (C, T, N)) (hd : decode b pc = .ok (.invokevirtual ix, 3)) (hp : pc + 3 = pc') (hk : As.length = k) (hst : st = As.reverse ++ .ref (o.G.ad c) :: rest) (hw : (rest.map fun v => v.category).sum ≤ 8)
    (kk : ∀ (v : Option Value) (S' : YS), post1 v S' → yW o S' pc' lv (v.toList ++ rest)) : yW o S pc lv st := by
  subst hp
  subst hst
  intro ls H locs hl hH
  have hpre := y_pre (As := .ref (o.G.ad c) :: As) hB hH
  exact y_after (va_runVN ⟨hB.1, hB.2.1, rfl, hB.2.2.1, hB.ts⟩ hM ⟨⟨⟨rfl, rfl, hF.1, hF.2, fun w hw' a' U hW => yT_warm hW hB.2.2.2.2.2.1 w (by rw [List.mem_singleton.mp hw']; exact hY.1) a', List.mem_singleton.mpr rfl⟩, hB.at hY.1, hB.at hY.2.1, hY.2.2.1, y_len hY.2.2.2.1, hB.at wl⟩, hB.at wi, hB.at ws⟩ ⟨hpre.1, y_recv hB hH hc he hcl, hpre.2⟩ rfl hk hl.1 rfl (lv_room hw) hd h0) hl hH.2 kk
/-- another count of cells and slots -/
def yat (o : YO) (c s : Nat) : YO := (o.p, o.l, o.e, o.R, o.s, o.m, o.args, o.below, o.meth, o.c, c, s, o.Q, o.G)
/-- what is thrown over the method's frame -/
def yWX (o : YO) (S : YS) (pc : Nat) (lv : List (Nat × Value)) (E : String) : Prop :=
  ∀ (ls : Array Slot) (H : Heap) (locs : List Loc) (q : Addr) (ce : Cell) (rest : List Value), lv_has ls o.c.maxLocals lv → yH o S H locs → H[q]? = some ce → ce.vm = .none → o.s.vm.findClass E = some ce.cls → vx_W o.p o.l o.e o.R o.s o.m o.args o.below o.meth o.c H locs o.cells o.slots o.Q (F0 o.m pc ls rest) q
theorem y_afterX {post1 : YS → Prop} {st0 rest : List Value} {ls : Array Slot} {H : Heap} {locs : List Loc} (hr : vx_Run o.p o.l o.e o.R o.s o.m o.args o.below o.meth o.c H locs o.cells o.slots 1 6 (F0 o.m pc ls st0) rest (fun _ _ _ => False) (yZ o.G E post1) (yA o.G.B)) (hl : lv_has ls o.c.maxLocals lv) (hS : va_S (yA o.G.B) o.s.heap H locs)
    (kk : ∀ S' : YS, post1 S' → yWX (yat o (o.cells + 1) (o.slots + 6)) S' pc lv E) : W o.p o.l o.e o.R o.s o.m o.args o.below o.meth o.c H locs o.cells o.slots o.Q (F0 o.m pc ls st0) := by
  intro T hT X
  rcases hr T hT X with ⟨v, st₀, t, T', L, h0, X', hL, e1, e2, hf, st⟩ | ⟨q, st₀, t, T', L, E', ce, h0, X', hL, e1, e2, ⟨rfl, ⟨S', hp, hb⟩, hz, hk⟩, hq, hv, hcl, st⟩
  · exact hf.elim
  · rw [h0] at hz hk
    obtain ⟨t2, a1, b1⟩ := kk S' hp ls T'.heap (locs ++ L) q ce rest hl ⟨by rw [e1]; exact hb, Nat.le_trans hS.1 (by rw [e1]; exact hz), fun a h1 h2 => by rw [e1, hk a (Nat.lt_of_lt_of_le h1 hS.1) h2]; exact hS.2.1 a h1 h2, fun a ha => by
      rcases List.mem_append.mp ha with h | h
      · exact hS.2.2 a h
      · exact hL a h⟩ (by rw [e1]; exact hq) hv hcl T' rfl X'
    exact ⟨t2, st.trans a1, b1⟩
/-- a call that throws, and what is thrown -/
theorem y_xV {c ci N : Nat} {C : String} {T : u_T} {post1 : YS → Prop} (hB : yB o b own) (hF : yFit o lev1 n1) (h0 : yRm o 1 6) (hM : yX o.l y b1 n1 ret1 lev1 o.G (.ref (o.G.ad c) :: As) S E post1) (hY : yM y b1 n1 ret1 k) (wl : Cond.methodLink own ix y ∈ yL) (wi : Cond.instanceMethod y ∈ yL) (ws : Cond.selects C y y ∈ yL) (hc : c < yN) (he : yk c = (0, ci)) (hcl : ycl[ci]? = some (C, T, N)) (hd : decode b pc = .ok (.invokevirtual ix, 3)) (hk : As.length = k) (hst : st = As.reverse ++ .ref (o.G.ad c) :: rest) (hw : (rest.map fun v => v.category).sum ≤ 8)
    (kk : ∀ S' : YS, post1 S' → yWX (yat o (o.cells + 1) (o.slots + 6)) S' pc lv E) : yW o S pc lv st := by
  subst hst
  intro ls H locs hl hH
  have hpre := y_pre (As := .ref (o.G.ad c) :: As) hB hH
  exact y_afterX (vx_runV ⟨hB.1, hB.2.1, rfl, hB.2.2.1, hB.ts⟩ hM ⟨⟨rfl, rfl, hF.1, hF.2, fun w hw' a' U hW => yT_warm hW hB.2.2.2.2.2.1 w (by rw [List.mem_singleton.mp hw']; exact hY.1) a', List.mem_singleton.mpr rfl, hB.at hY.1, hB.at hY.2.1, hY.2.2.1, y_len hY.2.2.2.1, hB.at wl⟩, hB.at wi, hB.at ws⟩ ⟨hpre.1, y_recv hB hH hc he hcl, hpre.2⟩ rfl hk hl.1 rfl (lv_room hw) hd h0) hl hH.2 kk
theorem y_xS {post1 : YS → Prop} (hB : yB o b own) (hF : yFit o lev1 n1) (h0 : yRm o 1 6) (hM : yX o.l y b1 n1 ret1 lev1 o.G As S E post1) (hY : yM y b1 n1 ret1 k) (wl : Cond.methodLink own ix y ∈ yL) (ws : Cond.static y ∈ yL) (hd : decode b pc = .ok (.invokestatic ix, 3)) (hk : As.length = k) (hst : st = As.reverse ++ rest) (hw : (rest.map fun v => v.category).sum ≤ 8)
    (kk : ∀ S' : YS, post1 S' → yWX (yat o (o.cells + 1) (o.slots + 6)) S' pc lv E) : yW o S pc lv st := by
  subst hst
  intro ls H locs hl hH
  exact y_afterX (vx_runS ⟨hB.1, hB.2.1, rfl, hB.2.2.1, hB.ts⟩ hM ⟨⟨rfl, rfl, hF.1, hF.2, fun w hw' a' U hW => yT_warm hW hB.2.2.2.2.2.1 w (by rw [List.mem_singleton.mp hw']; exact hY.1) a', List.mem_singleton.mpr rfl, hB.at hY.1, hB.at hY.2.1, hY.2.2.1, y_len hY.2.2.2.1, hB.at wl⟩, hB.at ws⟩ (y_pre hB hH) rfl hk hl.1 rfl (lv_room hw) hd h0) hl hH.2 kk
/-- not caught here -/
theorem y_out (hB : yB o b own) (hE : yEX o n ret lev E post) (h : post S) : yWX (yat o (o.cells + 1) (o.slots + 6)) S pc lv E := by
  intro ls H locs q ce rest hl hH hq hv hcl
  obtain ⟨e0, e1, e2, e3, e4, e5, e6, e7⟩ := hE
  show vx_W o.p o.l o.e o.R o.s o.m o.args o.below o.meth o.c H locs (o.cells + 1) (o.slots + 6) o.Q (F0 o.m pc ls rest) q
  rw [e5, e3, e4]
  exact vx_out (fun x hx => (e6 x hx).elim) hB.2.2.2.1 hq hv hcl (fun t ht _ => ⟨rfl, ⟨S, h, by rw [ht]; exact hH.1⟩, hH.2.F ht⟩) hH.2.2.2 (Nat.le_refl _) (Nat.le_refl _)
/-- caught here -/
theorem y_caught {hh pre suf : List (Nat × Nat × Nat × Nat)} {s0 e0 hp ct : Nat} (hB : yB o b own) (ht : o.c.exceptionTable.toList = tableOf hh) (hs : hh = pre ++ (s0, e0, hp, ct) :: suf) (h1 : s0 ≤ pc) (h2 : pc < e0) (h3 : ct ≠ 0) (hpass : ∀ z ∈ pre, z.2.2.2 ≠ 0 ∧ ∃ nm : String, Cond.classLink own z.2.2.2 nm ∈ yL ∧ (E, nm) ∈ ync) (hlink : Cond.classLink own ct E ∈ yL) (hcast : Cond.castable E E ∈ yL)
    (kk : ∀ q : Nat, yW o S hp lv [.ref q]) : yWX o S pc lv E := by
  intro ls H locs q ce rest hl hH hq hv hcl
  refine vx_catch (own := own) (name := E) (E := E) hB.2.2.1 (tableOf pre) ⟨s0, e0, hp, ct⟩ (tableOf suf) (by rw [ht, hs]; unfold tableOf; rw [List.map_append, List.map_cons]) ?_ ?_ h3 (hB.at hlink) (hB.at hcast) hq hv hcl (kk q ls H locs hl hH)
  · intro z hz
    unfold tableOf at hz
    obtain ⟨z0, hz0, rfl⟩ := List.mem_map.mp hz
    obtain ⟨a1, nm, a2, a3⟩ := hpass z0 hz0
    exact Or.inr ⟨a1, nm, hB.at a2, hB.2.2.2.2.2.2.2.2.2.2.2.2.2 _ a3⟩
  · simp [covers, h1, h2]
end YX
/-- A CONTRACT of a method with handlers: it returns -/
def yHC (l : Launch) (y : MethodName) (b : ByteArray) (n : Nat) (ret : Option FieldType) (hh : List (Nat × Nat × Nat × Nat)) (lev : Nat) (g : YG) (as : List Value) (S : YS) (post : Option Value → YS → Prop) : Prop :=
  vx_Met l y [Cond.codeWith y b n ret hh] (yRX lev) (va_Pc as (fun U => yF g U ∧ va_P g.D ycl (yw g S) U.heap)) (yQ g post) (fun _ _ _ => False) 1 6 (yA g.B)
def yEH (o : YO) (n : Nat) (ret : Option FieldType) (hh : List (Nat × Nat × Nat × Nat)) (lev : Nat) (post : Option Value → YS → Prop) : Prop :=
  o.c.maxLocals = n ∧ o.meth.sig.returnType = ret ∧ o.R = yRX lev ∧ o.c.exceptionTable.toList = tableOf hh ∧ o.Q = vx_MQ o.below (yQ o.G post) (fun _ _ _ => False) o.args o.s 1 6 (yA o.G.B)
theorem yHC_of {l : Launch} {y : MethodName} {b : ByteArray} {n : Nat} {ret : Option FieldType} {hh : List (Nat × Nat × Nat × Nat)} {lev : Nat} {g : YG} {as : List Value} {S : YS} {post : Option Value → YS → Prop} (hy : plainName y.cls = true) (hn : (lg_sl as).length ≤ n)
    (body : ∀ o : YO, o.l = l → o.G = g → o.cells = 0 → o.slots = 0 → yB o b y.cls → yEH o n ret hh lev post → yW o S 0 (lv_args 0 as) []) : yHC l y b n ret hh lev g as S post := by
  refine vx_ofWH (cc := b) (maxL := n) (ret := ret) (hh := hh) hy rfl ?_
  intro p e s m args below meth c s₁ Bd hml hv
  have htab : c.exceptionTable.toList = tableOf hh := vx_table (x := y) Bd (atoms_spec (ws := [Cond.codeWith y b n ret hh]) Bd.pre _ (List.mem_singleton.mpr rfl))
  obtain ⟨rfl, hF, hP⟩ := hv
  have h1 := body (p, l, e, yRX lev, s, m, as.toArray, below, meth, c, 0, 0, vx_MQ below (yQ g post) (fun _ _ _ => False) as.toArray s 1 6 (yA g.B), g) rfl rfl rfl rfl ⟨Bd.exec, Bd.bytes, findClass_of_methodNamed Bd.named, Bd.notSynchronized, hF⟩ ⟨hml, Bd.returns, rfl, htab, rfl⟩
  rw [lg_entry_eq]
  have h2 := lv_entry as hn
  rw [← hml] at h2
  exact h1 _ s.heap [] (by rw [← hml]; exact h2) ⟨hP, va_S.rf⟩
section YH
variable {o : YO} {b b1 : ByteArray} {own : String} {S : YS} {pc pc' n lev n1 lev1 k ix : Nat} {lv : List (Nat × Value)} {st : List Value} {ret ret1 : Option FieldType} {hh : List (Nat × Nat × Nat × Nat)} {post : Option Value → YS → Prop} {y : MethodName} {As rest : List Value}
theorem yEH.fit (hE : yEH o n ret hh lev post) (hl : lev1 + 1 ≤ lev) (hn : n1 ≤ 29) : yFit o lev1 n1 := by
  unfold yFit
  rw [hE.2.2.1]
  exact ⟨hl, by show 8 + (n1 + 11) + 48 * lev1 ≤ 48 * lev; omega⟩
theorem yEH.rm (hE : yEH o n ret hh lev post) {mc ms : Nat} (h1 : o.cells + mc ≤ 1) (h2 : o.slots + ms ≤ 6) : yRm o mc ms := by
  unfold yRm
  rw [hE.2.2.1]
  exact ⟨h1, h2⟩
theorem y_hret {v : Int32} (hB : yB o b own) (hE : yEH o n (some .int) hh lev post) (h1 : o.cells ≤ 1) (h2 : o.slots ≤ 6) (hd : decode b pc = .ok (.ireturn, 1)) (h : post (some (.int v)) S) : yW o S pc lv [.int v] := by
  intro ls H locs hl hH
  obtain ⟨-, e1, -, -, e4⟩ := hE
  rw [e4]
  refine W.widen h1 h2 (vx_ret ?_)
  exact W.iret hB.1 hB.2.1 e1 (fun t ht hW => ⟨⟨_, S, rfl, h, by rw [ht]; exact hH.1⟩, hH.2.F ht⟩) hH.2.2.2 hd hB.2.2.2.1
/-- a static call of a method with handlers -/
theorem y_hS {post1 : Option Value → YS → Prop} (hB : yB o b own) (hF : yFit o lev1 n1) (h0 : yRm o 1 6) (hM : yHC o.l y b1 n1 ret1 hh lev1 o.G As S post1) (hc : Cond.codeWith y b1 n1 ret1 hh ∈ yL) (hi : Cond.initialized y.cls ∈ yL) (hy : y.cls ≠ "java/lang/invoke/MethodHandle" ∧ y.cls ≠ "java/lang/invoke/VarHandle") (hdesc : (parseMethodDescriptor y.desc).map (fun d => d.parameters.length) = some k) (wl : Cond.methodLink own ix y ∈ yL) (ws : Cond.static y ∈ yL) (hd : decode b pc = .ok (.invokestatic ix, 3)) (hp : pc + 3 = pc') (hk : As.length = k) (hst : st = As.reverse ++ rest) (hw : (rest.map fun v => v.category).sum ≤ 8)
    (kk : ∀ (v : Option Value) (S' : YS), post1 v S' → yW (yat o (o.cells + 1) (o.slots + 6)) S' pc' lv (v.toList ++ rest)) : yW o S pc lv st := by
  subst hp
  subst hst
  intro ls H locs hl hH T hT X
  have hr := vx_runSX (e := o.e) (below := o.below) (meth := o.meth) (locs := locs) (cells := o.cells) (slots := o.slots) (g := F0 o.m pc ls (As.reverse ++ rest)) ⟨hB.1, hB.2.1, rfl, hB.2.2.1, hB.ts⟩ hM (R := o.R) ⟨⟨rfl, rfl, hF.1, hF.2, fun w hw' a' U hW => yT_warm hW hB.2.2.2.2.2.1 w (by rw [List.mem_singleton.mp hw']; exact hc) a', List.mem_singleton.mpr rfl⟩, hB.at hc, hB.at hi, hy, y_len hdesc, hB.at wl, hB.at ws⟩ (y_pre hB hH) rfl hk hl.1 rfl (lv_room hw) hd h0
  rcases hr T hT X with ⟨v, st₀, t, T', L, g0, X', hL, e1, e2, ⟨⟨v', S', hv, hp, hb⟩, hz, hk2⟩, st⟩ | ⟨q, st₀, t, T', L, E', ce, g0, X', hL, e1, e2, hf, -⟩
  · cases hv
    rw [g0] at hz hk2
    obtain ⟨t2, a1, b1⟩ := kk v S' hp ls T'.heap (locs ++ L) hl ⟨by rw [e1]; exact hb, Nat.le_trans hH.2.1 (by rw [e1]; exact hz), fun q h1 h2 => by rw [e1, hk2 q (Nat.lt_of_lt_of_le h1 hH.2.1) h2]; exact hH.2.2.1 q h1 h2, fun q hq => by
      rcases List.mem_append.mp hq with h | h
      · exact hH.2.2.2 q h
      · exact hL q h⟩ T' rfl X'
    exact ⟨t2, st t2 a1, b1⟩
  · exact hf.elim
/-- more cells and slots counted than used -/
theorem y_wide {c s : Nat} (h1 : o.cells ≤ c) (h2 : o.slots ≤ s) (kk : yW (yat o c s) S pc lv st) : yW o S pc lv st :=
  fun ls H locs hl hH => W.widen h1 h2 (kk ls H locs hl hH)
end YH
