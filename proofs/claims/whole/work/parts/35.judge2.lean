/-! JUDGE: runEnd, placeIn, placeByLeaps (and Math.min, Math.max) -/
theorem dc_J_runEnd_0 : decode mb_J_runEnd 0 = .ok (.iload_n 2, 1) := by decide +kernel
theorem dc_J_runEnd_1 : decode mb_J_runEnd 1 = .ok (.iconst 2, 1) := by decide +kernel
theorem dc_J_runEnd_2 : decode mb_J_runEnd 2 = .ok (.iadd, 1) := by decide +kernel
theorem dc_J_runEnd_3 : decode mb_J_runEnd 3 = .ok (.aload_n 1, 1) := by decide +kernel
theorem dc_J_runEnd_4 : decode mb_J_runEnd 4 = .ok (.getfield 50, 3) := by decide +kernel
theorem dc_J_runEnd_7 : decode mb_J_runEnd 7 = .ok (.invokestatic 57, 3) := by decide +kernel
theorem dc_J_runEnd_10 : decode mb_J_runEnd 10 = .ok (.istore 4, 2) := by decide +kernel
theorem dc_J_runEnd_12 : decode mb_J_runEnd 12 = .ok (.iload 4, 2) := by decide +kernel
theorem dc_J_runEnd_14 : decode mb_J_runEnd 14 = .ok (.aload_n 1, 1) := by decide +kernel
theorem dc_J_runEnd_15 : decode mb_J_runEnd 15 = .ok (.getfield 50, 3) := by decide +kernel
theorem dc_J_runEnd_18 : decode mb_J_runEnd 18 = .ok (.if_icmp .ge 20, 3) := by decide +kernel
theorem dc_J_runEnd_21 : decode mb_J_runEnd 21 = .ok (.aload_n 0, 1) := by decide +kernel
theorem dc_J_runEnd_22 : decode mb_J_runEnd 22 = .ok (.aload_n 1, 1) := by decide +kernel
theorem dc_J_runEnd_23 : decode mb_J_runEnd 23 = .ok (.iload 4, 2) := by decide +kernel
theorem dc_J_runEnd_25 : decode mb_J_runEnd 25 = .ok (.invokevirtual 53, 3) := by decide +kernel
theorem dc_J_runEnd_28 : decode mb_J_runEnd 28 = .ok (.iload_n 3, 1) := by decide +kernel
theorem dc_J_runEnd_29 : decode mb_J_runEnd 29 = .ok (.if_icmp .ne 9, 3) := by decide +kernel
theorem dc_J_runEnd_32 : decode mb_J_runEnd 32 = .ok (.iinc 4 1, 3) := by decide +kernel
theorem dc_J_runEnd_35 : decode mb_J_runEnd 35 = .ok (.goto (-23), 3) := by decide +kernel
theorem dc_J_runEnd_38 : decode mb_J_runEnd 38 = .ok (.iload 4, 2) := by decide +kernel
theorem dc_J_runEnd_40 : decode mb_J_runEnd 40 = .ok (.ireturn, 1) := by decide +kernel
theorem dc_J_placeIn_0 : decode mb_J_placeIn 0 = .ok (.iload 7, 2) := by decide +kernel
theorem dc_J_placeIn_2 : decode mb_J_placeIn 2 = .ok (.ifCond .eq 7, 3) := by decide +kernel
theorem dc_J_placeIn_5 : decode mb_J_placeIn 5 = .ok (.iconst 1, 1) := by decide +kernel
theorem dc_J_placeIn_6 : decode mb_J_placeIn 6 = .ok (.goto 4, 3) := by decide +kernel
theorem dc_J_placeIn_9 : decode mb_J_placeIn 9 = .ok (.iconst 0, 1) := by decide +kernel
theorem dc_J_placeIn_10 : decode mb_J_placeIn 10 = .ok (.istore 8, 2) := by decide +kernel
theorem dc_J_placeIn_12 : decode mb_J_placeIn 12 = .ok (.iload_n 2, 1) := by decide +kernel
theorem dc_J_placeIn_13 : decode mb_J_placeIn 13 = .ok (.istore 9, 2) := by decide +kernel
theorem dc_J_placeIn_15 : decode mb_J_placeIn 15 = .ok (.iload_n 3, 1) := by decide +kernel
theorem dc_J_placeIn_16 : decode mb_J_placeIn 16 = .ok (.istore 10, 2) := by decide +kernel
theorem dc_J_placeIn_18 : decode mb_J_placeIn 18 = .ok (.iload 9, 2) := by decide +kernel
theorem dc_J_placeIn_20 : decode mb_J_placeIn 20 = .ok (.iload 10, 2) := by decide +kernel
theorem dc_J_placeIn_22 : decode mb_J_placeIn 22 = .ok (.if_icmp .ge 55, 3) := by decide +kernel
theorem dc_J_placeIn_25 : decode mb_J_placeIn 25 = .ok (.iload 9, 2) := by decide +kernel
theorem dc_J_placeIn_27 : decode mb_J_placeIn 27 = .ok (.iload 10, 2) := by decide +kernel
theorem dc_J_placeIn_29 : decode mb_J_placeIn 29 = .ok (.iadd, 1) := by decide +kernel
theorem dc_J_placeIn_30 : decode mb_J_placeIn 30 = .ok (.iconst 1, 1) := by decide +kernel
theorem dc_J_placeIn_31 : decode mb_J_placeIn 31 = .ok (.iushr, 1) := by decide +kernel
theorem dc_J_placeIn_32 : decode mb_J_placeIn 32 = .ok (.istore 11, 2) := by decide +kernel
theorem dc_J_placeIn_34 : decode mb_J_placeIn 34 = .ok (.aload_n 0, 1) := by decide +kernel
theorem dc_J_placeIn_35 : decode mb_J_placeIn 35 = .ok (.aload_n 1, 1) := by decide +kernel
theorem dc_J_placeIn_36 : decode mb_J_placeIn 36 = .ok (.getfield 37, 3) := by decide +kernel
theorem dc_J_placeIn_39 : decode mb_J_placeIn 39 = .ok (.iload 11, 2) := by decide +kernel
theorem dc_J_placeIn_41 : decode mb_J_placeIn 41 = .ok (.laload, 1) := by decide +kernel
theorem dc_J_placeIn_42 : decode mb_J_placeIn 42 = .ok (.aload_n 1, 1) := by decide +kernel
theorem dc_J_placeIn_43 : decode mb_J_placeIn 43 = .ok (.getfield 43, 3) := by decide +kernel
theorem dc_J_placeIn_46 : decode mb_J_placeIn 46 = .ok (.iload 11, 2) := by decide +kernel
theorem dc_J_placeIn_48 : decode mb_J_placeIn 48 = .ok (.iaload, 1) := by decide +kernel
theorem dc_J_placeIn_49 : decode mb_J_placeIn 49 = .ok (.lload 4, 2) := by decide +kernel
theorem dc_J_placeIn_51 : decode mb_J_placeIn 51 = .ok (.iload 6, 2) := by decide +kernel
theorem dc_J_placeIn_53 : decode mb_J_placeIn 53 = .ok (.invokevirtual 47, 3) := by decide +kernel
theorem dc_J_placeIn_56 : decode mb_J_placeIn 56 = .ok (.iload 8, 2) := by decide +kernel
theorem dc_J_placeIn_58 : decode mb_J_placeIn 58 = .ok (.if_icmp .ge 12, 3) := by decide +kernel
theorem dc_J_placeIn_61 : decode mb_J_placeIn 61 = .ok (.iload 11, 2) := by decide +kernel
theorem dc_J_placeIn_63 : decode mb_J_placeIn 63 = .ok (.iconst 1, 1) := by decide +kernel
theorem dc_J_placeIn_64 : decode mb_J_placeIn 64 = .ok (.iadd, 1) := by decide +kernel
theorem dc_J_placeIn_65 : decode mb_J_placeIn 65 = .ok (.istore 9, 2) := by decide +kernel
theorem dc_J_placeIn_67 : decode mb_J_placeIn 67 = .ok (.goto 7, 3) := by decide +kernel
theorem dc_J_placeIn_70 : decode mb_J_placeIn 70 = .ok (.iload 11, 2) := by decide +kernel
theorem dc_J_placeIn_72 : decode mb_J_placeIn 72 = .ok (.istore 10, 2) := by decide +kernel
theorem dc_J_placeIn_74 : decode mb_J_placeIn 74 = .ok (.goto (-56), 3) := by decide +kernel
theorem dc_J_placeIn_77 : decode mb_J_placeIn 77 = .ok (.iload 9, 2) := by decide +kernel
theorem dc_J_placeIn_79 : decode mb_J_placeIn 79 = .ok (.ireturn, 1) := by decide +kernel
theorem qm_min : Cond.code Lib.Math.min.name Lib.Math.min.code 2 (some .int) ∈ yL := yL_in 444 (by decide +kernel) (by decide +kernel)
theorem y_mmin {o : YO} {b : ByteArray} {own : String} {S : YS} {pc pc' n lev x y ix : Nat} {lv : List (Nat × Value)} {st : List Value} {ret : Option FieldType} {post : Option Value → YS → Prop} (hB : yB o b own) (hE : yE o n ret (lev + 1) post) (hd : decode b pc = .ok (.invokestatic ix, 3)) (hp : pc + 3 = pc') (wl : Cond.methodLink own ix Lib.Math.min.name ∈ yL) (hx : x < 2 ^ 31) (hy : y < 2 ^ 31) (hw : (st.map fun v => v.category).sum ≤ 8) (kk : yW o S pc' lv (.int (nI (min x y)) :: st)) : yW o S pc lv (.int (nI y) :: .int (nI x) :: st) := by
  subst hp
  intro ls H locs hl hH
  refine va_mmin hB.1 hB.2.1 hl.1.symm hB.2.2.1 (hB.at wl) (hB.at q_443) (hB.at q_20) (hB.at qm_min) (by rw [hE.2.2.1]; show 1 ≤ lev + 1; omega) (by rw [hE.2.2.1]; show _ + 13 ≤ 48 * (lev + 1); omega) (y_ok0 hE).1 (y_ok0 hE).2 hd ?_
  have e : (if nI y < nI x then nI y else nI x) = nI (min x y) := by
    split
    · rename_i h
      rw [nI_ltI hy hx] at h
      rw [show min x y = y by omega]
    · rename_i h
      rw [nI_ltI hy hx] at h
      rw [show min x y = x by omega]
  rw [e]
  exact kk ls H locs hl hH
theorem qm_max : Cond.code Lib.Math.max.name Lib.Math.max.code 2 (some .int) ∈ yL := yL_in 484 (by decide +kernel) (by decide +kernel)
theorem y_mmax {o : YO} {b : ByteArray} {own : String} {S : YS} {pc pc' n lev x y ix : Nat} {lv : List (Nat × Value)} {st : List Value} {ret : Option FieldType} {post : Option Value → YS → Prop} (hB : yB o b own) (hE : yE o n ret (lev + 1) post) (hd : decode b pc = .ok (.invokestatic ix, 3)) (hp : pc + 3 = pc') (wl : Cond.methodLink own ix Lib.Math.max.name ∈ yL) (hx : x < 2 ^ 31) (hy : y < 2 ^ 31) (hw : (st.map fun v => v.category).sum ≤ 8) (kk : yW o S pc' lv (.int (nI (max x y)) :: st)) : yW o S pc lv (.int (nI y) :: .int (nI x) :: st) := by
  subst hp
  intro ls H locs hl hH
  refine va_mmax hB.1 hB.2.1 hl.1.symm hB.2.2.1 (hB.at wl) (hB.at q_483) (hB.at q_20) (hB.at qm_max) (by rw [hE.2.2.1]; show 1 ≤ lev + 1; omega) (by rw [hE.2.2.1]; show _ + 13 ≤ 48 * (lev + 1); omega) (y_ok0 hE).1 (y_ok0 hE).2 hd ?_
  have e : (if nI x < nI y then nI y else nI x) = nI (max x y) := by
    split
    · rename_i h
      rw [nI_ltI hx hy] at h
      rw [show max x y = y by omega]
    · rename_i h
      rw [nI_ltI hx hy] at h
      rw [show max x y = x by omega]
  rw [e]
  exact kk ls H locs hl hH
/-- a comparison's answer below the limit: at most (behind alike ones) or less -/
def zcd (bh : Bool) (a x : Int) : Prop := zg a x < yb bh
theorem zcd_t {a x : Int} : zcd true a x ↔ a ≤ x := zg_le
theorem zcd_f {a x : Int} : zcd false a x ↔ a < x := zg_lt
theorem zcd_mono {bh : Bool} {a b x : Int} (h : a ≤ b) (hb : zcd bh b x) : zcd bh a x := by
  cases bh with
  | true => rw [zcd_t] at hb ⊢; omega
  | false => rw [zcd_f] at hb ⊢; omega
set_option maxHeartbeats 4000000 in
set_option maxRecDepth 100000 in
theorem ct_J_runEnd (l : Launch) (g : YG) (S : YS) (od : Nat) (tg : Bool) (c : Nat) (hJ : yJ S od tg c) (r : Nat) (hr : r < 6) (n : Nat) (hn : n ≤ 1024) (hc : gF S (2 + r) 2 = nI n) (i : Nat) (hi : i < n) (fl : Bool) : yC l mn_J_runEnd mb_J_runEnd 5 (some .int) 4 g [.ref (g.ad (20)), .ref (g.ad (2 + r)), .int (nI (i)), .int (yb fl)] S (fun v S' => ∃ e c', v = some (.int (nI e)) ∧ S' = yq S c' ∧ min (i + 2) n ≤ e ∧ e ≤ n ∧ (∀ j, min (i + 2) n ≤ j → j < e → decide (zq od tg (ye S r j) < zq od tg (ye S r (j - 1))) = fl) ∧ (e < n → decide (zq od tg (ye S r e) < zq od tg (ye S r (e - 1))) ≠ fl) ∧ c' + min (i + 2) n ≤ c + e + (if e < n then 1 else 0)) := by
  refine yC_of (by decide) (Nat.le_of_ble_eq_true rfl) ?_
  intro o hl hg hB0 hE
  subst hl
  subst hg
  have hB : yB o mb_J_runEnd "OrderBench$Judge" := hB0
  have hm := hE.1
  show yW o (S) 0 [(0, .ref (o.G.ad (20))), (1, .ref (o.G.ad (2 + r))), (2, .int (nI (i))), (3, .int (yb fl))] []
  refine y_iload_n (pc' := 1) hB dc_J_runEnd_0 rfl rfl 2 rfl ?_
  refine y_iconst (v := nI 2) (pc' := 2) hB dc_J_runEnd_1 rfl rfl ?_
  refine n_iadd (x := i) (y := 2) (pc' := 3) hB dc_J_runEnd_2 rfl ?_
  refine y_aload_n (pc' := 4) hB dc_J_runEnd_3 rfl rfl 1 rfl ?_
  refine f_count (r := r) (pc' := 7) hB dc_J_runEnd_4 rfl (by omega) q_56 ?_
  refine y_topi (y := nI (n)) hc ?_
  refine y_mmin (x := i + 2) (y := n) (pc' := 10) hB hE dc_J_runEnd_7 rfl q_474 (by omega) (by omega) (by decide) ?_
  refine y_istore (pc' := 12) (lv' := [(4, .int (nI (min (i + 2) n))), (0, .ref (o.G.ad (20))), (1, .ref (o.G.ad (2 + r))), (2, .int (nI (i))), (3, .int (yb fl))]) hB hm dc_J_runEnd_10 rfl (by decide) rfl ?_
  have loop : ∀ (d : Nat) (e c1 : Nat), n - e < d → min (i + 2) n ≤ e → e ≤ n → (∀ j, min (i + 2) n ≤ j → j < e → decide (zq od tg (ye S r j) < zq od tg (ye S r (j - 1))) = fl) → c1 + min (i + 2) n ≤ c + e → yW o (yq S c1) 12 [(4, .int (nI (e))), (0, .ref (o.G.ad (20))), (1, .ref (o.G.ad (2 + r))), (2, .int (nI (i))), (3, .int (yb fl))] [] := by
    intro d
    induction d with
    | zero => intro e c1 hd; omega
    | succ d ih =>
      intro e c1 hd he hen hf hcc
      refine y_iload (pc' := 14) hB dc_J_runEnd_12 rfl 0 rfl ?_
      refine y_aload_n (pc' := 15) hB dc_J_runEnd_14 rfl rfl 2 rfl ?_
      refine f_count (r := r) (pc' := 18) hB dc_J_runEnd_15 rfl (by omega) q_56 ?_
      refine y_topi (y := nI (n)) ((gF_yq S c1 r hr).trans hc) ?_
      refine n_icmp_ge (pc' := 21) (tg := 38) hB dc_J_runEnd_18 rfl rfl (by omega) (by omega) (fun h => ?_) (fun h => ?_)
      · refine y_iload (pc' := 40) hB dc_J_runEnd_38 rfl 0 rfl ?_
        exact y_iret hB hE dc_J_runEnd_40 ⟨e, c1, rfl, rfl, he, hen, hf, fun q => by omega, by rw [if_neg (by omega)]; omega⟩
      · refine y_aload_n (pc' := 22) hB dc_J_runEnd_21 rfl rfl 1 rfl ?_
        refine y_aload_n (pc' := 23) hB dc_J_runEnd_22 rfl rfl 2 rfl ?_
        refine y_iload (pc' := 25) hB dc_J_runEnd_23 rfl 0 rfl ?_
        refine y_callV (c := 20) (ci := 2) (As := [.ref (o.G.ad (2 + r)), .int (nI (e))]) (rest := []) (pc' := 28) hB hE (ct_J_drops o.l o.G (yq S c1) od tg c1 (yJ_yq hJ c1) r hr e (by omega) (by omega)) mm_J_drops q_466 q_467 q_468 (by decide) rfl rfl dc_J_runEnd_25 rfl (by decide) rfl rfl (by decide) (fun v S' hpost => ?_)
        obtain ⟨rfl, hSS⟩ := hpost
        rw [hSS]
        clear hSS S'
        show yW o (yq (yq S c1) (c1 + 1)) 28 [(4, .int (nI (e))), (0, .ref (o.G.ad (20))), (1, .ref (o.G.ad (2 + r))), (2, .int (nI (i))), (3, .int (yb fl))] [.int (yb (decide (zq od tg (ye S r e) < zq od tg (ye S r (e - 1)))))]
        rw [yq_yq]
        refine y_iload_n (pc' := 29) hB dc_J_runEnd_28 rfl rfl 4 rfl ?_
        refine y_icmp_ne (x := yb (decide (zq od tg (ye S r e) < zq od tg (ye S r (e - 1))))) (y := yb fl) (pc' := 32) (tg := 38) hB dc_J_runEnd_29 rfl rfl (fun h2 => ?_) (fun h2 => ?_)
        · rw [yb_inj] at h2
          refine y_iload (pc' := 40) hB dc_J_runEnd_38 rfl 0 rfl ?_
          exact y_iret hB hE dc_J_runEnd_40 ⟨e, c1 + 1, rfl, rfl, he, hen, hf, fun _ => h2, by rw [if_pos h]; omega⟩
        · rw [yb_inj] at h2
          refine n_inc (q := 0) (z := 1) (pc' := 35) (lv' := [(4, .int (nI (e + 1))), (0, .ref (o.G.ad (20))), (1, .ref (o.G.ad (2 + r))), (2, .int (nI (i))), (3, .int (yb fl))]) hB hm dc_J_runEnd_32 rfl rfl (by decide) rfl ?_
          refine y_goto (tg := 12) hB dc_J_runEnd_35 rfl ?_
          refine ih (e + 1) (c1 + 1) (by omega) (by omega) (by omega) (fun j hj1 hj2 => ?_) (by omega)
          by_cases hje : j = e
          · rw [hje]; exact h2
          · exact hf j hj1 (by omega)
  have h0 := loop (n + 1) (min (i + 2) n) c (by omega) (Nat.le_refl _) (by omega) (fun j h1 h2 => by omega) (by omega)
  rw [yq_self hJ] at h0
  exact h0
set_option maxHeartbeats 4000000 in
set_option maxRecDepth 100000 in
theorem ct_J_placeIn (l : Launch) (g : YG) (S : YS) (od : Nat) (tg : Bool) (c : Nat) (hJ : yJ S od tg c) (r : Nat) (hr : r < 6) (a b : Nat) (hab : a ≤ b) (hb : b ≤ 1024) (hs : ∀ i j, a ≤ i → i < j → j < b → zq od tg (ye S r i) ≤ zq od tg (ye S r j)) (k : Int64) (t : Int32) (bh : Bool) (m : Nat) (hm2 : b - a < 2 ^ m) : yC l mn_J_placeIn mb_J_placeIn 12 (some .int) 3 g [.ref (g.ad (20)), .ref (g.ad (2 + r)), .int (nI (a)), .int (nI (b)), .long (k), .int (t), .int (yb bh)] S (fun v S' => ∃ p c', v = some (.int (nI p)) ∧ S' = yq S c' ∧ a ≤ p ∧ p ≤ b ∧ (∀ j, a ≤ j → j < p → zcd bh (zq od tg (ye S r j)) (zq od tg (k, t))) ∧ (∀ j, p ≤ j → j < b → ¬ zcd bh (zq od tg (ye S r j)) (zq od tg (k, t))) ∧ c' ≤ c + m) := by
  refine yC_of (by decide) (Nat.le_of_ble_eq_true rfl) ?_
  intro o hl hg hB0 hE
  subst hl
  subst hg
  have hB : yB o mb_J_placeIn "OrderBench$Judge" := hB0
  have hm := hE.1
  show yW o (S) 0 [(0, .ref (o.G.ad (20))), (1, .ref (o.G.ad (2 + r))), (2, .int (nI (a))), (3, .int (nI (b))), (4, .long (k)), (6, .int (t)), (7, .int (yb bh))] []
  have main : yW o S 10 [(0, .ref (o.G.ad (20))), (1, .ref (o.G.ad (2 + r))), (2, .int (nI (a))), (3, .int (nI (b))), (4, .long (k)), (6, .int (t)), (7, .int (yb bh))] [.int (yb bh)] := by
    refine y_istore (pc' := 12) (lv' := [(8, .int (yb bh)), (0, .ref (o.G.ad (20))), (1, .ref (o.G.ad (2 + r))), (2, .int (nI (a))), (3, .int (nI (b))), (4, .long (k)), (6, .int (t)), (7, .int (yb bh))]) hB hm dc_J_placeIn_10 rfl (by decide) rfl ?_
    refine y_iload_n (pc' := 13) hB dc_J_placeIn_12 rfl rfl 3 rfl ?_
    refine y_istore (pc' := 15) (lv' := [(9, .int (nI (a))), (8, .int (yb bh)), (0, .ref (o.G.ad (20))), (1, .ref (o.G.ad (2 + r))), (2, .int (nI (a))), (3, .int (nI (b))), (4, .long (k)), (6, .int (t)), (7, .int (yb bh))]) hB hm dc_J_placeIn_13 rfl (by decide) rfl ?_
    refine y_iload_n (pc' := 16) hB dc_J_placeIn_15 rfl rfl 5 rfl ?_
    refine y_istore (pc' := 18) (lv' := [(10, .int (nI (b))), (9, .int (nI (a))), (8, .int (yb bh)), (0, .ref (o.G.ad (20))), (1, .ref (o.G.ad (2 + r))), (2, .int (nI (a))), (3, .int (nI (b))), (4, .long (k)), (6, .int (t)), (7, .int (yb bh))]) hB hm dc_J_placeIn_16 rfl (by decide) rfl ?_
    have loop : ∀ (d : Nat) (lo hi c1 m1 : Nat), hi - lo < d → a ≤ lo → lo ≤ hi → hi ≤ b → (∀ j, a ≤ j → j < lo → zcd bh (zq od tg (ye S r j)) (zq od tg (k, t))) → (∀ j, hi ≤ j → j < b → ¬ zcd bh (zq od tg (ye S r j)) (zq od tg (k, t))) → hi - lo < 2 ^ m1 → c1 + m1 ≤ c + m → yW o (yq S c1) 18 [(10, .int (nI (hi))), (9, .int (nI (lo))), (8, .int (yb bh)), (0, .ref (o.G.ad (20))), (1, .ref (o.G.ad (2 + r))), (2, .int (nI (a))), (3, .int (nI (b))), (4, .long (k)), (6, .int (t)), (7, .int (yb bh))] [] := by
      intro d
      induction d with
      | zero => intro lo hi c1 m1 hd; omega
      | succ d ih =>
        intro lo hi c1 m1 hd h1 h2 h3 h4 h5 h6 h7
        refine y_iload (pc' := 20) hB dc_J_placeIn_18 rfl 1 rfl ?_
        refine y_iload (pc' := 22) hB dc_J_placeIn_20 rfl 0 rfl ?_
        refine n_icmp_ge (pc' := 25) (tg := 77) hB dc_J_placeIn_22 rfl rfl (by omega) (by omega) (fun h => ?_) (fun h => ?_)
        · refine y_iload (pc' := 79) hB dc_J_placeIn_77 rfl 1 rfl ?_
          exact y_iret hB hE dc_J_placeIn_79 ⟨lo, c1, rfl, rfl, h1, by omega, h4, fun j q1 q2 => h5 j (by omega) q2, by omega⟩
        · refine y_iload (pc' := 27) hB dc_J_placeIn_25 rfl 1 rfl ?_
          refine y_iload (pc' := 29) hB dc_J_placeIn_27 rfl 0 rfl ?_
          refine n_iadd (x := lo) (y := hi) (pc' := 30) hB dc_J_placeIn_29 rfl ?_
          refine y_iconst (v := nI 1) (pc' := 31) hB dc_J_placeIn_30 rfl rfl ?_
          refine y_iushr (v := (Int32.toUInt32 (nI (lo + hi)) >>> (Int32.toUInt32 (nI (1)) &&& Int32.toUInt32 31)).toInt32) (pc' := 32) hB dc_J_placeIn_31 rfl rfl ?_
          refine y_topi (y := nI ((lo + hi) / 2)) (pk_ushrN (by omega) (nI 1) 1 (by decide)) ?_
          obtain ⟨m2, hm3⟩ : ∃ m2, m1 = m2 + 1 := ⟨m1 - 1, by cases m1 with | zero => simp at h6; omega | succ n => simp⟩
          subst hm3
          rw [Nat.pow_succ] at h6
          obtain ⟨md, hmd⟩ : ∃ z : Nat, z = (lo + hi) / 2 := ⟨_, rfl⟩
          rw [← hmd]
          refine y_istore (pc' := 34) (lv' := [(11, .int (nI (md))), (10, .int (nI (hi))), (9, .int (nI (lo))), (8, .int (yb bh)), (0, .ref (o.G.ad (20))), (1, .ref (o.G.ad (2 + r))), (2, .int (nI (a))), (3, .int (nI (b))), (4, .long (k)), (6, .int (t)), (7, .int (yb bh))]) hB hm dc_J_placeIn_32 rfl (by decide) rfl ?_
          refine y_aload_n (pc' := 35) hB dc_J_placeIn_34 rfl rfl 4 rfl ?_
          refine y_aload_n (pc' := 36) hB dc_J_placeIn_35 rfl rfl 5 rfl ?_
          refine f_keys (r := r) (pc' := 39) hB dc_J_placeIn_36 rfl (by omega) q_41 ?_
          refine y_iload (pc' := 41) hB dc_J_placeIn_39 rfl 0 rfl ?_
          refine y_lald (c := 8 + r) (n := 1024) (j := md) (pc' := 42) hB dc_J_placeIn_41 rfl (by unfold yN; omega) (yk_row (by omega)).2.1 (by omega) (by decide) ?_
          refine y_aload_n (pc' := 43) hB dc_J_placeIn_42 rfl rfl 5 rfl ?_
          refine f_tags (r := r) (pc' := 46) hB dc_J_placeIn_43 rfl (by omega) q_47 ?_
          refine y_iload (pc' := 48) hB dc_J_placeIn_46 rfl 0 rfl ?_
          refine y_iald (c := 14 + r) (n := 1024) (j := md) (pc' := 49) hB dc_J_placeIn_48 rfl (by unfold yN; omega) (yk_row (by omega)).2.2 (by omega) (by decide) ?_
          refine y_lload (pc' := 51) hB dc_J_placeIn_49 rfl 8 rfl ?_
          refine y_iload (pc' := 53) hB dc_J_placeIn_51 rfl 9 rfl ?_
          refine y_callV (c := 20) (ci := 2) (As := [.long (gL (yq S c1) (8 + r) (md)), .int (gI (yq S c1) (14 + r) (md)), .long (k), .int (t)]) (rest := []) (pc' := 56) hB hE (ct_J_compare o.l o.G (yq S c1) od tg c1 (yJ_yq hJ c1) _ _ _ _) mm_J_compare q_375 q_376 q_377 (by decide) rfl rfl dc_J_placeIn_53 rfl (by decide) rfl rfl (by decide) (fun v S' hpost => ?_)
          obtain ⟨rfl, hSS⟩ := hpost
          rw [hSS]
          clear hSS S'
          show yW o (yq (yq S c1) (c1 + 1)) 56 [(11, .int (nI (md))), (10, .int (nI (hi))), (9, .int (nI (lo))), (8, .int (yb bh)), (0, .ref (o.G.ad (20))), (1, .ref (o.G.ad (2 + r))), (2, .int (nI (a))), (3, .int (nI (b))), (4, .long (k)), (6, .int (t)), (7, .int (yb bh))] [.int (zg (zq od tg (ye S r md)) (zq od tg (k, t)))]
          rw [yq_yq]
          refine y_iload (pc' := 58) hB dc_J_placeIn_56 rfl 3 rfl ?_
          refine y_icmp_ge (x := zg (zq od tg (ye S r md)) (zq od tg (k, t))) (y := yb bh) (pc' := 61) (tg := 70) hB dc_J_placeIn_58 rfl rfl (fun h8 => ?_) (fun h8 => ?_)
          · have h9 : ¬ zcd bh (zq od tg (ye S r md)) (zq od tg (k, t)) := fun q => by unfold zcd at q; exact absurd q (Int32.not_lt.mpr h8)
            refine y_iload (pc' := 72) hB dc_J_placeIn_70 rfl 0 rfl ?_
            refine y_istore (pc' := 74) (lv' := [(10, .int (nI (md))), (11, .int (nI (md))), (9, .int (nI (lo))), (8, .int (yb bh)), (0, .ref (o.G.ad (20))), (1, .ref (o.G.ad (2 + r))), (2, .int (nI (a))), (3, .int (nI (b))), (4, .long (k)), (6, .int (t)), (7, .int (yb bh))]) hB hm dc_J_placeIn_72 rfl (by decide) rfl ?_
            refine y_goto (tg := 18) hB dc_J_placeIn_74 rfl ?_
            refine y_sub [0, 2, 3, 4, 5, 6, 7, 8, 9, 10] rfl ?_
            refine ih lo md (c1 + 1) m2 (by omega) h1 (by omega) (by omega) h4 (fun j q1 q2 q3 => h9 (zcd_mono ?_ q3)) (by omega) (by omega)
            by_cases hj : j = md
            · rw [hj]; exact Int.le_refl _
            · exact hs md j (by omega) (by omega) q2
          · have h9 : zcd bh (zq od tg (ye S r md)) (zq od tg (k, t)) := Int32.not_le.mp h8
            refine y_iload (pc' := 63) hB dc_J_placeIn_61 rfl 0 rfl ?_
            refine y_iconst (v := nI 1) (pc' := 64) hB dc_J_placeIn_63 rfl rfl ?_
            refine n_iadd (x := md) (y := 1) (pc' := 65) hB dc_J_placeIn_64 rfl ?_
            refine y_istore (pc' := 67) (lv' := [(9, .int (nI (md + 1))), (11, .int (nI (md))), (10, .int (nI (hi))), (8, .int (yb bh)), (0, .ref (o.G.ad (20))), (1, .ref (o.G.ad (2 + r))), (2, .int (nI (a))), (3, .int (nI (b))), (4, .long (k)), (6, .int (t)), (7, .int (yb bh))]) hB hm dc_J_placeIn_65 rfl (by decide) rfl ?_
            refine y_goto (tg := 74) hB dc_J_placeIn_67 rfl ?_
            refine y_goto (tg := 18) hB dc_J_placeIn_74 rfl ?_
            refine y_sub [2, 0, 3, 4, 5, 6, 7, 8, 9, 10] rfl ?_
            refine ih (md + 1) hi (c1 + 1) m2 (by omega) (by omega) (by omega) h3 (fun j q1 q2 => zcd_mono ?_ h9) h5 (by omega) (by omega)
            by_cases hj : j = md
            · rw [hj]; exact Int.le_refl _
            · exact hs j md q1 (by omega) (by omega)
    have h0 := loop (b + 1) a b c m (by omega) (Nat.le_refl _) hab (Nat.le_refl _) (fun j q1 q2 => by omega) (fun j q1 q2 => by omega) hm2 (by omega)
    rw [yq_self hJ] at h0
    exact h0
  refine y_iload (pc' := 2) hB dc_J_placeIn_0 rfl 6 rfl ?_
  refine y_if_eq (x := yb bh) (pc' := 5) (tg := 9) hB dc_J_placeIn_2 rfl rfl (fun h => ?_) (fun h => ?_)
  · rw [yb_0] at h
    subst h
    refine y_iconst (v := nI 0) (pc' := 10) hB dc_J_placeIn_9 rfl rfl ?_
    exact main
  · rw [yb_n] at h
    subst h
    refine y_iconst (v := nI 1) (pc' := 6) hB dc_J_placeIn_5 rfl rfl ?_
    refine y_goto (tg := 10) hB dc_J_placeIn_6 rfl ?_
    exact main
