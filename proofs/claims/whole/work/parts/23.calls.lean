/-! CALLS over the calculus -/
theorem yF_warm {g : YG} {s U : State} (hW : s.WarmedH U.vm) (hz : s.heap.size ≤ U.heap.size) (hk : ∀ a : Nat, a < s.heap.size → ¬ yA g.B a → U.heap[a]? = s.heap[a]?) (h : yF g s) : yF g U :=
  ⟨va_K.moved hW.alike h.1, yT_warm hW h.2.1, h.2.2.1, h.2.2.2.1, Nat.le_trans h.2.2.2.2.1 hz, yXt_warm hW hk h.2.2.2.2.2⟩
theorem y_blind (g : YG) (S : YS) (as : List Value) : FrameBlind (va_Pc as (fun U => yF g U ∧ va_P g.D ycl (yw g S) U.heap)) :=
  fun a U gg mk q => ⟨q.1, yF_warm (s := U) (U := U.calling gg mk a) (State.WarmedH.refl U) (Nat.le_refl _) (fun _ _ _ => rfl) q.2.1, q.2.2⟩
/-- what a callee's tables say -/
def yM (y : MethodName) (b : ByteArray) (n : Nat) (ret : Option FieldType) (k : Nat) : Prop := Cond.code y b n ret ∈ yL ∧ Cond.initialized y.cls ∈ yL ∧ (y.cls ≠ "java/lang/invoke/MethodHandle" ∧ y.cls ≠ "java/lang/invoke/VarHandle") ∧ (parseMethodDescriptor y.desc).map (fun d => d.parameters.length) = some k ∧ n ≤ 29
section YK
variable {o : YO} {b b1 : ByteArray} {own : String} {S : YS} {pc pc' n lev n1 lev1 k ix : Nat} {lv : List (Nat × Value)} {st : List Value} {ret ret1 : Option FieldType} {post post1 : Option Value → YS → Prop} {y : MethodName} {As rest : List Value}
theorem y_pre (hB : yB o b own) {H : Heap} {locs : List Loc} (hH : yH o S H locs) : PreS o.s H (va_Pc As (fun U => yF o.G U ∧ va_P o.G.D ycl (yw o.G S) U.heap)) As :=
  ⟨y_blind o.G S As, fun U hU hW => ⟨rfl, yF_warm hW (by rw [hU]; exact hH.2.1) (by rw [hU]; exact hH.2.2.1) hB.2.2.2.2, by rw [hU]; exact hH.1⟩⟩
theorem y_len (h : (parseMethodDescriptor y.desc).map (fun d => d.parameters.length) = some k) : ∀ sig, parseMethodDescriptor y.desc = some sig → k = sig.parameters.length := by
  intro sig hs
  rw [hs] at h
  exact (Option.some.inj h).symm
theorem y_fits (hE : yE o n ret lev post) (hl : lev1 + 1 ≤ lev) (hn : n1 ≤ 29) : (yR lev1).cells = 0 ∧ (yR lev1).slots = 0 ∧ (yR lev1).frames + 1 ≤ o.R.frames ∧ 8 + (n1 + 11) + (yR lev1).locals ≤ o.R.locals := by
  rw [hE.2.2.1]
  refine ⟨rfl, rfl, hl, ?_⟩
  show 8 + (n1 + 11) + 48 * lev1 ≤ 48 * lev
  omega
theorem y_ok0 (hE : yE o n ret lev post) : o.cells + 0 ≤ o.R.cells ∧ o.slots + 0 ≤ o.R.slots := by
  rw [hE.2.2.1, hE.2.2.2.1, hE.2.2.2.2.1]
  exact ⟨Nat.le_refl _, Nat.le_refl _⟩
theorem y_callS (hB : yB o b own) (hE : yE o n ret lev post) (hM : yC o.l y b1 n1 ret1 lev1 o.G As S post1) (hY : yM y b1 n1 ret1 k) (wl : Cond.methodLink own ix y ∈ yL) (ws : Cond.static y ∈ yL) (hd : decode b pc = .ok (.invokestatic ix, 3)) (hp : pc + 3 = pc') (hlev : lev1 + 1 ≤ lev) (hk : As.length = k) (hst : st = As.reverse ++ rest) (hw : (rest.map fun v => v.category).sum ≤ 8)
    (kk : ∀ (v : Option Value) (S' : YS), post1 v S' → yW o S' pc' lv (v.toList ++ rest)) : yW o S pc lv st := by
  subst hp
  subst hst
  intro ls H locs hl hH
  obtain ⟨f1, f2, f3, f4⟩ := y_fits hE hlev hY.2.2.2.2
  exact y_after (va_runS ⟨hB.1, hB.2.1, rfl, hB.2.2.1, hB.ts⟩ hM ⟨⟨f1, f2, f3, f4, fun w hw' a' U hW => yT_warm hW hB.2.2.2.2.2.1 w (by rw [List.mem_singleton.mp hw']; exact hY.1) a', List.mem_singleton.mpr rfl, hB.at hY.1, hB.at hY.2.1, hY.2.2.1, y_len hY.2.2.2.1, hB.at wl⟩, hB.at ws⟩ (y_pre hB hH) rfl hk hl.1 rfl (lv_room hw) hd (y_ok0 hE)) hl hH.2 kk
theorem y_callSN {host : String} (hB : yB o b own) (hE : yE o n ret lev post) (hM : yC o.l y b1 n1 ret1 lev1 o.G As S post1) (hY : yM y b1 n1 ret1 k) (wl : Cond.methodLinkNest own ix y host ∈ yL) (ws : Cond.static y ∈ yL) (hd : decode b pc = .ok (.invokestatic ix, 3)) (hp : pc + 3 = pc') (hlev : lev1 + 1 ≤ lev) (hk : As.length = k) (hst : st = As.reverse ++ rest) (hw : (rest.map fun v => v.category).sum ≤ 8)
    (kk : ∀ (v : Option Value) (S' : YS), post1 v S' → yW o S' pc' lv (v.toList ++ rest)) : yW o S pc lv st := by
  subst hp
  subst hst
  intro ls H locs hl hH
  obtain ⟨f1, f2, f3, f4⟩ := y_fits hE hlev hY.2.2.2.2
  exact y_after (va_runSN ⟨hB.1, hB.2.1, rfl, hB.2.2.1, hB.ts⟩ hM ⟨⟨⟨f1, f2, f3, f4, fun w hw' a' U hW => yT_warm hW hB.2.2.2.2.2.1 w (by rw [List.mem_singleton.mp hw']; exact hY.1) a', List.mem_singleton.mpr rfl⟩, hB.at hY.1, hB.at hY.2.1, hY.2.2.1, y_len hY.2.2.2.1, hB.at wl⟩, hB.at ws, trivial⟩ (y_pre hB hH) rfl hk hl.1 rfl (lv_room hw) hd (y_ok0 hE)) hl hH.2 kk
/-- an object of the world is of its class -/
theorem y_recv (hB : yB o b own) {H : Heap} {locs : List Loc} (hH : yH o S H locs) {c ci N : Nat} {C : String} {T : u_T} (hc : c < yN) (he : yk c = (0, ci)) (hcl : ycl[ci]? = some (C, T, N)) : ∃ cellB : Cell, H[o.G.ad c]? = some cellB ∧ cellB.vm.isStatics = false ∧ o.s.vm.findClass C = some cellB.cls := by
  exact va_recv hB.K hH.1 hcl ((yw_get hc).trans (by rw [yc_o he]))
theorem y_callV {c ci N : Nat} {C : String} {T : u_T} (hB : yB o b own) (hE : yE o n ret lev post) (hM : yC o.l y b1 n1 ret1 lev1 o.G (.ref (o.G.ad c) :: As) S post1) (hY : yM y b1 n1 ret1 k) (wl : Cond.methodLink own ix y ∈ yL) (wi : Cond.instanceMethod y ∈ yL) (ws : Cond.selects C y y ∈ yL) (hc : c < yN) (he : yk c = (0, ci)) (hcl : ycl[ci]? = some (C, T, N)) (hd : decode b pc = .ok (.invokevirtual ix, 3)) (hp : pc + 3 = pc') (hlev : lev1 + 1 ≤ lev) (hk : As.length = k) (hst : st = As.reverse ++ .ref (o.G.ad c) :: rest) (hw : (rest.map fun v => v.category).sum ≤ 8)
    (kk : ∀ (v : Option Value) (S' : YS), post1 v S' → yW o S' pc' lv (v.toList ++ rest)) : yW o S pc lv st := by
  subst hp
  subst hst
  intro ls H locs hl hH
  obtain ⟨f1, f2, f3, f4⟩ := y_fits hE hlev hY.2.2.2.2
  have hpre := y_pre (As := .ref (o.G.ad c) :: As) hB hH
  exact y_after (va_runV ⟨hB.1, hB.2.1, rfl, hB.2.2.1, hB.ts⟩ hM ⟨⟨f1, f2, f3, f4, fun w hw' a' U hW => yT_warm hW hB.2.2.2.2.2.1 w (by rw [List.mem_singleton.mp hw']; exact hY.1) a', List.mem_singleton.mpr rfl, hB.at hY.1, hB.at hY.2.1, hY.2.2.1, y_len hY.2.2.2.1, hB.at wl⟩, hB.at wi, hB.at ws⟩ ⟨hpre.1, y_recv hB hH hc he hcl, hpre.2⟩ rfl hk hl.1 rfl (lv_room hw) hd (y_ok0 hE)) hl hH.2 kk
theorem y_callVN {host : String} {c ci N : Nat} {C : String} {T : u_T} (hB : yB o b own) (hE : yE o n ret lev post) (hM : yC o.l y b1 n1 ret1 lev1 o.G (.ref (o.G.ad c) :: As) S post1) (hY : yM y b1 n1 ret1 k) (wl : Cond.methodLinkNest own ix y host ∈ yL) (wi : Cond.instanceMethod y ∈ yL) (ws : Cond.selects C y y ∈ yL) (hc : c < yN) (he : yk c = (0, ci)) (hcl : ycl[ci]? = some (C, T, N)) (hd : decode b pc = .ok (.invokevirtual ix, 3)) (hp : pc + 3 = pc') (hlev : lev1 + 1 ≤ lev) (hk : As.length = k) (hst : st = As.reverse ++ .ref (o.G.ad c) :: rest) (hw : (rest.map fun v => v.category).sum ≤ 8)
    (kk : ∀ (v : Option Value) (S' : YS), post1 v S' → yW o S' pc' lv (v.toList ++ rest)) : yW o S pc lv st := by
  subst hp
  subst hst
  intro ls H locs hl hH
  obtain ⟨f1, f2, f3, f4⟩ := y_fits hE hlev hY.2.2.2.2
  have hpre := y_pre (As := .ref (o.G.ad c) :: As) hB hH
  exact y_after (va_runVN ⟨hB.1, hB.2.1, rfl, hB.2.2.1, hB.ts⟩ hM ⟨⟨⟨f1, f2, f3, f4, fun w hw' a' U hW => yT_warm hW hB.2.2.2.2.2.1 w (by rw [List.mem_singleton.mp hw']; exact hY.1) a', List.mem_singleton.mpr rfl⟩, hB.at hY.1, hB.at hY.2.1, hY.2.2.1, y_len hY.2.2.2.1, hB.at wl⟩, hB.at wi, hB.at ws⟩ ⟨hpre.1, y_recv hB hH hc he hcl, hpre.2⟩ rfl hk hl.1 rfl (lv_room hw) hd (y_ok0 hE)) hl hH.2 kk
end YK
