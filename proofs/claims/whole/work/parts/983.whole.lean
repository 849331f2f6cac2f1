/-! THE CLAIM -/
set_option maxHeartbeats 4000000 in
set_option maxRecDepth 100000 in
theorem st_K {s : State} (hT : yT s) (hAO : va_AO "OrderBench$Row" s) : ∃ (D : va_G) (ca : Nat → ClassId), va_K D ycl (yt ca) s := by
  have ht : ∀ w ∈ yL, w.before #[] s = true := fun w hw => hT w hw #[]
  obtain ⟨c0, i0, h0⟩ := u_known (n := 7) ht fW_B (ht _ q_23)
  obtain ⟨c1, i1, h1⟩ := u_known (n := 3) ht fW_R (ht _ q_32)
  obtain ⟨c2, i2, h2⟩ := u_known (n := 3) ht fW_J (ht _ q_67)
  obtain ⟨c3, i3, h3⟩ := u_known (n := 4) ht fW_P (ht _ q_84)
  obtain ⟨c4, i4, h4⟩ := u_known (n := 8) ht fW_M (ht _ q_634)
  obtain ⟨cI, kI, pI, a1, a2, a3⟩ := Cond.arrayClass_spec (ht _ q_65)
  obtain ⟨cL, kL, pL, l1, l2, l3⟩ := Cond.arrayClass_spec (ht _ q_64)
  obtain ⟨pQ, cQ, kQ, b1, -, b2, b3, b4⟩ := Cond.arrayOver_spec hAO
  refine ⟨(fun i => if i = 0 then c0 else if i = 1 then c1 else if i = 2 then c2 else if i = 3 then c3 else c4, fun i => if i = 0 then i0 else if i = 1 then i1 else if i = 2 then i2 else if i = 3 then i3 else i4), fun i => if i = 0 then cI else if i = 1 then cL else cQ, fun c q hq => ?_, fun k q hq => ?_⟩
  · have hc : c < 5 := (List.getElem?_eq_some_iff.mp hq).1
    rcases (show c = 0 ∨ c = 1 ∨ c = 2 ∨ c = 3 ∨ c = 4 by omega) with rfl | rfl | rfl | rfl | rfl
    · cases hq; exact h0
    · cases hq; exact h1
    · cases hq; exact h2
    · cases hq; exact h3
    · cases hq; exact h4
  · have hk : k < 3 := (List.getElem?_eq_some_iff.mp hq).1
    rcases (show k = 0 ∨ k = 1 ∨ k = 2 by omega) with rfl | rfl | rfl
    · cases hq; exact ⟨fun n z => ⟨fun k h => (by cases h), kI, a2, pI, a3⟩, a1⟩
    · cases hq; exact ⟨fun n z => ⟨fun k h => (by cases h), kL, l2, pL, l3⟩, l1⟩
    · cases hq; exact ⟨fun n z => ⟨fun k h => (by cases h), kQ, b2, pQ, b3⟩, kQ, pQ, b2, b3, b1, b4⟩
set_option maxHeartbeats 4000000 in
set_option maxRecDepth 100000 in
theorem st_X {g : YG} {s : State} {b : Nat} (hB : g.B = s.heap.size) (hts : ∀ w ∈ lw_tbl, w.before #[Value.ref b] s = true) (hgv : (Jvm.Cond.and given_1 narrow_1).before #[Value.ref b] s = true) : yXt g s := by
  have hf := flat_of_before _ hgv
  have hA : ∀ a : Nat, a < s.heap.size → ¬ yA g.B a := fun a ha => by unfold yA; omega
  have hw : ∀ (i : Nat) (w : Cond), tables_1[i]? = some w → w.before #[Value.ref b] s = true := fun i w h => hts w (List.mem_append_right _ (List.mem_of_getElem? h))
  have hga : (Cond.arrayOf (.static "OrderBench$Insertion" "GAPS" "[I") .int).before #[Value.ref b] s = true := hf _ (by decide +kernel)
  have hgl : (Cond.eq (.length (.static "OrderBench$Insertion" "GAPS" "[I")) (.int 8)).before #[Value.ref b] s = true := hf _ (by decide +kernel)
  have hg0 : (Cond.eq (.elem (.static "OrderBench$Insertion" "GAPS" "[I") (.int 0)) (.int 701)).before #[Value.ref b] s = true := hf _ (by decide +kernel)
  have hg1 : (Cond.eq (.elem (.static "OrderBench$Insertion" "GAPS" "[I") (.int 1)) (.int 301)).before #[Value.ref b] s = true := hf _ (by decide +kernel)
  have hg2 : (Cond.eq (.elem (.static "OrderBench$Insertion" "GAPS" "[I") (.int 2)) (.int 132)).before #[Value.ref b] s = true := hf _ (by decide +kernel)
  have hg3 : (Cond.eq (.elem (.static "OrderBench$Insertion" "GAPS" "[I") (.int 3)) (.int 57)).before #[Value.ref b] s = true := hf _ (by decide +kernel)
  have hg4 : (Cond.eq (.elem (.static "OrderBench$Insertion" "GAPS" "[I") (.int 4)) (.int 23)).before #[Value.ref b] s = true := hf _ (by decide +kernel)
  have hg5 : (Cond.eq (.elem (.static "OrderBench$Insertion" "GAPS" "[I") (.int 5)) (.int 10)).before #[Value.ref b] s = true := hf _ (by decide +kernel)
  have hg6 : (Cond.eq (.elem (.static "OrderBench$Insertion" "GAPS" "[I") (.int 6)) (.int 4)).before #[Value.ref b] s = true := hf _ (by decide +kernel)
  have hg7 : (Cond.eq (.elem (.static "OrderBench$Insertion" "GAPS" "[I") (.int 7)) (.int 1)).before #[Value.ref b] s = true := hf _ (by decide +kernel)
  obtain ⟨gp, e1, e2⟩ := va_Tof (tm := .static "OrderBench$Insertion" "GAPS" "[I") (ty := .int) (N := 8) (f := fun k => .int (nI (zgaps k))) (A := yA g.B) (by decide) hga (Cond.eq_int hgl rfl) (fun j hj => by
    rcases (show j = 0 ∨ j = 1 ∨ j = 2 ∨ j = 3 ∨ j = 4 ∨ j = 5 ∨ j = 6 ∨ j = 7 by omega) with rfl | rfl | rfl | rfl | rfl | rfl | rfl | rfl
    · exact Cond.eq_int hg0 rfl
    · exact Cond.eq_int hg1 rfl
    · exact Cond.eq_int hg2 rfl
    · exact Cond.eq_int hg3 rfl
    · exact Cond.eq_int hg4 rfl
    · exact Cond.eq_int hg5 rfl
    · exact Cond.eq_int hg6 rfl
    · exact Cond.eq_int hg7 rfl) hA
  refine ⟨⟨gp, va_Zof (hw 433 _ (by decide +kernel)) (hts _ (List.mem_filter.mp q_14).1) e1 hA, e2⟩, vx_Zqof (hw 168 _ (by decide +kernel)) (hts _ (List.mem_filter.mp q_6).1) (hf _ (by decide +kernel)) hA, vx_Zqof (hw 170 _ (by decide +kernel)) (hts _ (List.mem_filter.mp q_6).1) (hf _ (by decide +kernel)) hA, ?_, ?_⟩
  · unfold ystr
    have z215 : ∃ sa : Nat, vk_R "OrderBench" 215 "there is no such row" sa s := by
      have z : (Cond.exactly (.string "OrderBench" 215) "java/lang/String").before #[Value.ref b] s = true := hf _ (by decide +kernel)
      obtain ⟨a, -, -, -, z1, -⟩ := Cond.exactly_spec z
      exact ⟨a, vk_R.of (hw 182 _ (by decide +kernel)) z1⟩
    have z59 : ∃ sa : Nat, vk_R "OrderBench" 59 "the row is full" sa s := by
      have z : (Cond.exactly (.string "OrderBench" 59) "java/lang/String").before #[Value.ref b] s = true := hf _ (by decide +kernel)
      obtain ⟨a, -, -, -, z1, -⟩ := Cond.exactly_spec z
      exact ⟨a, vk_R.of (hw 218 _ (by decide +kernel)) z1⟩
    have z70 : ∃ sa : Nat, vk_R "OrderBench" 70 "a row has 0 to 1024 entries" sa s := by
      have z : (Cond.exactly (.string "OrderBench" 70) "java/lang/String").before #[Value.ref b] s = true := hf _ (by decide +kernel)
      obtain ⟨a, -, -, -, z1, -⟩ := Cond.exactly_spec z
      exact ⟨a, vk_R.of (hw 246 _ (by decide +kernel)) z1⟩
    have z73 : ∃ sa : Nat, vk_R "OrderBench" 73 "there is no such kind" sa s := by
      have z : (Cond.exactly (.string "OrderBench" 73) "java/lang/String").before #[Value.ref b] s = true := hf _ (by decide +kernel)
      obtain ⟨a, -, -, -, z1, -⟩ := Cond.exactly_spec z
      exact ⟨a, vk_R.of (hw 253 _ (by decide +kernel)) z1⟩
    have z90 : ∃ sa : Nat, vk_R "OrderBench" 90 "the row has not as many entries" sa s := by
      have z : (Cond.exactly (.string "OrderBench" 90) "java/lang/String").before #[Value.ref b] s = true := hf _ (by decide +kernel)
      obtain ⟨a, -, -, -, z1, -⟩ := Cond.exactly_spec z
      exact ⟨a, vk_R.of (hw 275 _ (by decide +kernel)) z1⟩
    have z218 : ∃ sa : Nat, vk_R "OrderBench" 218 "there is no such entry" sa s := by
      have z : (Cond.exactly (.string "OrderBench" 218) "java/lang/String").before #[Value.ref b] s = true := hf _ (by decide +kernel)
      obtain ⟨a, -, -, -, z1, -⟩ := Cond.exactly_spec z
      exact ⟨a, vk_R.of (hw 286 _ (by decide +kernel)) z1⟩
    have z220 : ∃ sa : Nat, vk_R "OrderBench" 220 "there is no such order" sa s := by
      have z : (Cond.exactly (.string "OrderBench" 220) "java/lang/String").before #[Value.ref b] s = true := hf _ (by decide +kernel)
      obtain ⟨a, -, -, -, z1, -⟩ := Cond.exactly_spec z
      exact ⟨a, vk_R.of (hw 352 _ (by decide +kernel)) z1⟩
    have z222 : ∃ sa : Nat, vk_R "OrderBench" 222 "there is no such way" sa s := by
      have z : (Cond.exactly (.string "OrderBench" 222) "java/lang/String").before #[Value.ref b] s = true := hf _ (by decide +kernel)
      obtain ⟨a, -, -, -, z1, -⟩ := Cond.exactly_spec z
      exact ⟨a, vk_R.of (hw 356 _ (by decide +kernel)) z1⟩
    have z227 : ∃ sa : Nat, vk_R "OrderBench" 227 "that way is not for that order" sa s := by
      have z : (Cond.exactly (.string "OrderBench" 227) "java/lang/String").before #[Value.ref b] s = true := hf _ (by decide +kernel)
      obtain ⟨a, -, -, -, z1, -⟩ := Cond.exactly_spec z
      exact ⟨a, vk_R.of (hw 360 _ (by decide +kernel)) z1⟩
    have z229 : ∃ sa : Nat, vk_R "OrderBench" 229 "the row is not in this order" sa s := by
      have z : (Cond.exactly (.string "OrderBench" 229) "java/lang/String").before #[Value.ref b] s = true := hf _ (by decide +kernel)
      obtain ⟨a, -, -, -, z1, -⟩ := Cond.exactly_spec z
      exact ⟨a, vk_R.of (hw 593 _ (by decide +kernel)) z1⟩
    have z190 : ∃ sa : Nat, vk_R "OrderBench" 190 "there is no room for all entries of both rows" sa s := by
      have z : (Cond.exactly (.string "OrderBench" 190) "java/lang/String").before #[Value.ref b] s = true := hf _ (by decide +kernel)
      obtain ⟨a, -, -, -, z1, -⟩ := Cond.exactly_spec z
      exact ⟨a, vk_R.of (hw 601 _ (by decide +kernel)) z1⟩
    intro q hq
    rcases List.mem_cons.mp hq with e | hq
    · rw [e]; exact z215
    rcases List.mem_cons.mp hq with e | hq
    · rw [e]; exact z59
    rcases List.mem_cons.mp hq with e | hq
    · rw [e]; exact z70
    rcases List.mem_cons.mp hq with e | hq
    · rw [e]; exact z73
    rcases List.mem_cons.mp hq with e | hq
    · rw [e]; exact z90
    rcases List.mem_cons.mp hq with e | hq
    · rw [e]; exact z218
    rcases List.mem_cons.mp hq with e | hq
    · rw [e]; exact z220
    rcases List.mem_cons.mp hq with e | hq
    · rw [e]; exact z222
    rcases List.mem_cons.mp hq with e | hq
    · rw [e]; exact z227
    rcases List.mem_cons.mp hq with e | hq
    · rw [e]; exact z229
    rcases List.mem_cons.mp hq with e | hq
    · rw [e]; exact z190
    exact absurd hq List.not_mem_nil
  · unfold ync
    have z0 : va_Nc yXA yXS s := va_Nc.of (hf (.not (.castable "java/lang/IllegalArgumentException" "java/lang/IllegalStateException")) (by decide +kernel))
    have z1 : va_Nc yXA yXI s := va_Nc.of (hf (.not (.castable "java/lang/IllegalArgumentException" "java/lang/IndexOutOfBoundsException")) (by decide +kernel))
    have z2 : va_Nc yXS yXA s := va_Nc.of (hf (.not (.castable "java/lang/IllegalStateException" "java/lang/IllegalArgumentException")) (by decide +kernel))
    have z3 : va_Nc yXS yXI s := va_Nc.of (hf (.not (.castable "java/lang/IllegalStateException" "java/lang/IndexOutOfBoundsException")) (by decide +kernel))
    have z4 : va_Nc yXI yXA s := va_Nc.of (hf (.not (.castable "java/lang/IndexOutOfBoundsException" "java/lang/IllegalArgumentException")) (by decide +kernel))
    have z5 : va_Nc yXI yXS s := va_Nc.of (hf (.not (.castable "java/lang/IndexOutOfBoundsException" "java/lang/IllegalStateException")) (by decide +kernel))
    intro q hq
    rcases List.mem_cons.mp hq with e | hq
    · rw [e]; exact z0
    rcases List.mem_cons.mp hq with e | hq
    · rw [e]; exact z1
    rcases List.mem_cons.mp hq with e | hq
    · rw [e]; exact z2
    rcases List.mem_cons.mp hq with e | hq
    · rw [e]; exact z3
    rcases List.mem_cons.mp hq with e | hq
    · rw [e]; exact z4
    rcases List.mem_cons.mp hq with e | hq
    · rw [e]; exact z5
    exact absurd hq List.not_mem_nil
set_option maxHeartbeats 4000000 in
set_option maxRecDepth 100000 in
/-- from the entry, for every script of at most 3584 ints, the law comes to its end with true -/
theorem whole_start {p : Program} {e : Env} {s : State} {m : MethodId} {below : List Frame} {meth : Method} {c : Code} (l : Launch) (hst : l.stackTraces = false) {b L : Nat} {xs : Nat → Int32} (hL : L ≤ 3584) (C0 : lw_At p s m meth c b L xs) : W p l e room_1 s m #[Value.ref b] below meth c s.heap [] 0 0 (lw_Z below #[Value.ref b] s) (entryFrame m ([Value.ref b] : List Value).toArray 8) := by
  obtain ⟨hx, hb, hr, hml, hown, hts, hX, hbl, hlk, hgv⟩ := C0
  have hT : yT s := fun w hw a => yGd_warm (List.mem_filter.mp hw).2 (State.WarmedH.refl s) (hts w (List.mem_filter.mp hw).1)
  have hAO : va_AO "OrderBench$Row" s := va_AO.of (hts (.arrayOver (.object "OrderBench$Row")) (List.mem_append_right _ (List.mem_of_getElem? (i := 31) (by decide +kernel))))
  obtain ⟨D, ca, hK⟩ := st_K hT hAO
  have hF0 : yF ((D, fun i => s.heap.size + i, ca, s.heap.size) : YG) s := ⟨hK, hT, fun i j _ _ e => Nat.add_left_cancel e, fun i _ => Nat.le_add_right _ _, Nat.le_refl _, st_X rfl hts hgv⟩
  obtain ⟨o, ho⟩ : ∃ o : YO, o = (p, l, e, room_1, s, m, #[Value.ref b], below, meth, c, 0, 0, lw_Z below #[Value.ref b] s, (D, fun i => s.heap.size + i, ca, s.heap.size)) := ⟨_, rfl⟩
  have hB : yB o code "OrderBenchLaw" := by rw [ho]; exact ⟨hx, hb, hown, hlk, hF0⟩
  have main : tW o 0 0 [] [] 0 [(0, .ref b)] [] := by
    refine lg_start hB (by rw [ho]; exact hml) (by rw [ho]) (by rw [ho]; exact hAO) [] ?_
    intro q1 q2 q3 q4 q5 q6 q7 q8 q9 q10 q11 q12 q13 q14 q15 q16 q17 q18 q19 q20 q21 q22 q23 q24 q25 q26 q27 q28 q29 q30 q31 q32
    intro ls H locs hl hH
    obtain ⟨q, hq⟩ : ∃ q : Nat → Nat, q = fun i => ([q1, q2, q3, q4, q5, q6, q7, q8, q9, q10, q11, q12, q13, q14, q15, q16, q17, q18, q19, q20, q21, q22, q23, q24, q25, q26, q27, q28, q29, q30, q31, q32] : List Nat).getD i 0 := ⟨_, rfl⟩
    obtain ⟨g, hg⟩ : ∃ g : YG, g = (D, fun i => q (yprm i), ca, s.heap.size) := ⟨_, rfl⟩
    have hP : va_P g.D ycl (yMk g q) H := by rw [hg, hq]; have z := hH.1; rw [ho] at z; exact z
    have hD : va_D (yA g.B) (yMk g q) := by rw [hg, hq]; have z := hH.2.1; rw [ho] at z; exact z
    have hS : va_S (yA g.B) s.heap H locs := by rw [hg]; have z := hH.2.2; rw [ho] at z; exact z
    have hinj : ∀ i j, i < yN → j < yN → g.ad i = g.ad j → i = j := by
      intro i j hi hj hij
      rw [hg] at hij
      obtain ⟨ei, z1⟩ := yMk_at g q (yprm i) (yprm_lt i hi)
      obtain ⟨ej, z2⟩ := yMk_at g q (yprm j) (yprm_lt j hj)
      exact yprm_inj i hi j hj (hD.1 _ _ _ _ z1 z2 hij)
    have hge : ∀ i, i < yN → g.B ≤ g.ad i := by
      intro i hi
      obtain ⟨ei, z1⟩ := yMk_at g q (yprm i) (yprm_lt i hi)
      have z := hD.2 _ _ z1
      rw [hg] at z ⊢
      exact z
    have hF : yF g s := ⟨by rw [hg]; exact hK, hT, hinj, hge, by rw [hg]; exact Nat.le_refl _, st_X (by rw [hg]) hts hgv⟩
    obtain ⟨o1, ho1⟩ : ∃ o : YO, o = (p, l, e, room_1, s, m, #[Value.ref b], below, meth, c, 32, 25971, lw_Z below #[Value.ref b] s, g) := ⟨_, rfl⟩
    have hB1 : yB o1 code "OrderBenchLaw" := by rw [ho1]; exact ⟨hx, hb, hown, hlk, hF⟩
    have hLw : yLw o1 b L xs := by
      refine ⟨hB1, by rw [ho1]; exact hml, fun lev1 n1 h1 h2 => ?_, by rw [ho1]; exact hX, by rw [ho1]; exact hbl, by rw [ho1, hg]; exact hbl, hL, by rw [ho1]; exact hst⟩
      rw [ho1]
      exact ⟨by show lev1 + 1 ≤ 2048; omega, by show 8 + (n1 + 11) + 48 * lev1 ≤ 84000; omega⟩
    have hend : ∀ (c' s' : Nat) (S : YS) (lv : List (Nat × Value)), c' ≤ 601024 → s' ≤ 7293034 → yW (yat o1 c' s') S 1606 lv [] := fun c' s' S lv h1 h2 =>
      lg_end (o := yat o1 c' s') (b := b) hB1 (by show o1.R = room_1; rw [ho1]) (by show o1.Q = lw_Z o1.below #[Value.ref b] o1.s; rw [ho1]) (by show o1.args = _; rw [ho1]) (by show o1.G.B = o1.s.heap.size; rw [ho1]; show g.B = s.heap.size; rw [hg]) (by show o1.meth.sig.returnType = ret; rw [ho1]; exact hr) h1 h2 S lv
    have hloop := lg_loop hLw (by rw [ho1]) hend (L + 1) 0 yS0 32 25971 (by omega) (by omega) yInv_0 (by omega) (by omega)
    have hgo : yW (yat o1 32 25971) yS0 20 [(3, .ref (o1.G.ad 31)), (2, .ref (o1.G.ad 24)), (1, .ref (o1.G.ad 0)), (0, .ref b)] [] := by
      have hBa : yB (yat o1 32 25971) code "OrderBenchLaw" := hB1
      have hma : (yat o1 32 25971).c.maxLocals = 8 := hLw.2.1
      refine y_iconst (v := nI 0) (pc' := 21) hBa dc_L_law_20 rfl rfl ?_
      refine y_istore (pc' := 23) (lv' := [(4, .int (nI (7 * 0))), (3, .ref (o1.G.ad 31)), (2, .ref (o1.G.ad 24)), (1, .ref (o1.G.ad 0)), (0, .ref b)]) hBa hma dc_L_law_21 rfl (by decide) rfl ?_
      exact hloop
    have hz := hgo ls H locs
    rw [ho1, hg, hq] at hz
    rw [ho]
    rw [ho] at hl
    exact hz hl ⟨by have z := st_P (g := g) (q := q) (by rw [hg]) hP; rw [hg, hq] at z; exact z, by rw [hg] at hS; exact hS⟩
  rw [ho] at main
  rw [lg_entry_eq]
  have h2 := lv_entry [Value.ref b] (n := 8) (Nat.le_of_ble_eq_true rfl)
  exact main _ s.heap [] (by show lv_has _ c.maxLocals _; rw [hml]; exact h2) ⟨fun k q hk => (by cases hk), ⟨fun i j p q hi => (by cases hi), fun k q hk => (by cases hk)⟩, va_S.rf⟩
set_option maxHeartbeats 4000000 in
theorem lw_walk (l : Launch) (hst : l.stackTraces = false) (b : Addr) (xs : List Int32) : MetFree l x (headSpec (Jvm.Cond.code x code maxLocals ret :: tables_1) room_1) (lw_P b xs) (fun _ _ _ _ _ => True) lw_Q := by
  refine MetFree.of_bodyS (code := code) (maxLocals := maxLocals) (ret := ret) (by decide) ?_ ?_
  · intro args s m h hn
    obtain ⟨meth, c, h1, h2, h3, h4, h5, h6, -, -⟩ := Cond.code_spec hn (atoms_spec (ws := Jvm.Cond.code x code maxLocals ret :: tables_1) h _ List.mem_cons_self)
    exact ⟨meth, c, h1, h2, h3, h4, h5, h6⟩
  · intro p e s m args below meth c s₁ B hml0 hP _
    obtain ⟨rfl, hx, hbd, hgv⟩ := hP
    obtain ⟨scr, harrAt, hlist, hof, hsmall⟩ := hx
    obtain ⟨hcb, hkn, -, -⟩ := State.arrayAt?_spec harrAt
    have hown : s.vm.findClass R_law = some m.cls := findClass_of_methodNamed B.named
    have hts0 : ∀ c ∈ (Jvm.Cond.code x code maxLocals ret :: tables_1), c.before #[Value.ref b] s = true := atoms_spec (ws := Jvm.Cond.code x code maxLocals ret :: tables_1) B.pre
    have hts : ∀ w ∈ lw_tbl, w.before #[Value.ref b] s = true := k2_hts_sels lw_privs (fun w hw => hts0 w (List.mem_cons_of_mem _ hw)) lw_privs_ok
    have hml : c.maxLocals = 8 := B.maxLocals_eq (hts0 _ List.mem_cons_self)
    have X₀ : Stand p l e room_1 s m #[Value.ref b] below meth c s₁ [] 0 0 := Stand.of_body B
    have hh0 : s₁.heap = s.heap := by rw [B.state]; rfl
    have hsz : scr.slots.size = xs.length := by rw [← Array.length_toList, hlist, List.length_map]
    have hval : ∀ j : Nat, j < xs.length → scr.slots[j]? = some (.int (xs.getD j 0)) := fun j hj => by
      rw [← Array.getElem?_toList, hlist]
      simp [hj]
    have hbl : b < s.heap.size := (Array.getElem?_eq_some_iff.mp hcb).1
    have hX : va_X b xs.length (fun j => xs.getD j 0) s s.heap := ⟨scr, hcb, hof, hkn, hsz, hval⟩
    have K : W p l e room_1 s m #[Value.ref b] below meth c s₁.heap [] 0 0 (lw_Z below #[Value.ref b] s) (entryFrame m ([Value.ref b] : List Value).toArray 8) := by
      rw [hh0]
      exact whole_start l hst hbd ⟨B.exec, B.bytes, B.returns, hml, hown, hts, hX, hbl, B.notSynchronized, hgv⟩
    obtain ⟨t, a1, o, b1, b2, b3⟩ := K s₁ rfl X₀
    exact ⟨t, o, a1, b1, b2, b3⟩
theorem lw_pre_spec {args : Array Value} {s : State} (h : (Jvm.Cond.and given_1 narrow_1).before args s = true) (hr : rest_1_c.before args s = true) : ∃ (b : Addr) (xs : List Int32), lw_P b xs args s := by
  have hs := flat_of_before _ h
  have hq := flat_of_before _ hr
  have hc : (Cond.count 1).before args s = true := hs _ (by decide +kernel)
  have harr : (Cond.arrayOf (.arg 0) .int).before args s = true := hs _ (by decide +kernel)
  have hle : (Cond.le (.length (.arg 0)) (.int 3584)).before args s = true := hs _ (by decide +kernel)
  have hlen : (Cond.isInt (.length (.arg 0))).before args s = true := hq _ (by decide +kernel)
  have hall : (Cond.all (.arg 0) (.isInt (.elem (.arg 0) (.index 0)))).before args s = true := hq _ (by decide +kernel)
  obtain ⟨b, xs, hb, hx⟩ := State.ints_of_pre rfl harr hlen hall
  have hsm : xs.length < 2 ^ 31 := hx.choose_spec.2.2.2
  have hev : (Term.length (.arg 0)).eval args s none [] s = some (.int xs.length.toInt32) := hx.length_eval hb
  have hv := Cond.le_ints hev (show (Term.int 3584).eval args s none [] s = some (.int 3584) from rfl)
  have hd : xs.length.toInt32 ≤ 3584 := by
    simpa [Cond.before, Cond.holds, hv] using hle
  have hN : xs.length ≤ 3584 := (Int32.ofNat_le_ofNat hsm (by decide)).mp (show Int32.ofNat xs.length ≤ Int32.ofNat 3584 from hd)
  exact ⟨b, xs, Cond.one_arg hc (show args[0]? = some (.ref b) from hb), hx, hN, h⟩
theorem lw_comes (l : Launch) (hst : l.stackTraces = false) : Comes l x (Jvm.Cond.code x code maxLocals ret :: tables_1) room_1 (fun tb e args s => Calls_1 tb e args s ∧ rest_1 tb e args s ∧ Pre_1 tb e args s)
    (fun _ _ args s o t => lw_Q args s o t) := by
  intro p e ha hc hk s m args below hf hfit hheap happ hpre
  obtain ⟨b, xs, hP⟩ := lw_pre_spec hpre.2.2 hpre.2.1
  obtain ⟨k, o, h1, h2, h3, hQ⟩ := lw_walk l hst b xs p e ha hc hk s m args below hf ((Spec.applies_iff_loose hf).mp happ).1 hP trivial
  exact ⟨k, o, h1, h2, h3, hQ⟩
theorem lw_frame {s t : State} {o : Outcome} {args : Array Value} (h : Framed s o t [] 601024 7293034) :
    Framed s o t (fieldLocs frame_1_writes args s ++ arrayLocs frame_1_arrays args s ++ staticLocs frame_1_statics s) 601024 7293034 := h
theorem lw_limb (L : Cond) (hL : ∀ (args : Array Value) (s t : State), L.after args s (.returned (some (.int 1))) t = true) :
    ArmFor flags0 classFile x code maxLocals ret World_1 tables_1 room_1 Calls_1 rest_1 Pre_1
      (fun tb e a s o t => postC L tb e a s o t ∧ Framed s o t (fieldLocs frame_1_writes a s ++ arrayLocs frame_1_arrays a s ++ staticLocs frame_1_statics s) 601024 7293034) := by
  intro l hfl _ _ p e ha hc hk s m args below hf hfit hheap happ hpre
  have hst : l.stackTraces = false := by
    unfold Launch.stackTraces
    rw [hfl]
    decide
  obtain ⟨k, o, h1, h2, h3, rfl, hF⟩ := lw_comes l hst p e ha hc hk s m args below hf hfit hheap happ hpre
  exact ⟨k, _, h1, h2, h3, hL args s _, lw_frame hF⟩
theorem i_vc : Claimed_1_1 ∧ Claimed_1_2 := ⟨lw_limb limb_1_1 (fun args s t => by simp [limb_1_1, Cond.after, Cond.holds, Cond.value]), lw_limb limb_1_2 (fun args s t => Cond.after_iff.mpr (by
  first | (rw [show limb_1_2 = Cond.eq .result (.int 1) from rfl, Cond.eq_ints (x := 1) (y := 1) rfl rfl]; simp; done) | (simp [limb_1_2, Cond.value, Term.eval]; done)))⟩
