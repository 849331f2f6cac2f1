/-! ROW: put, take, takeMany, becomeLike, change, turnRound, numberTags -/
theorem dc_R_put_0 : decode mb_R_put 0 = .ok (.aload_n 0, 1) := by decide +kernel
theorem dc_R_put_1 : decode mb_R_put 1 = .ok (.getfield 9, 3) := by decide +kernel
theorem dc_R_put_4 : decode mb_R_put 4 = .ok (.iload_n 1, 1) := by decide +kernel
theorem dc_R_put_5 : decode mb_R_put 5 = .ok (.lload_n 2, 1) := by decide +kernel
theorem dc_R_put_6 : decode mb_R_put 6 = .ok (.lastore, 1) := by decide +kernel
theorem dc_R_put_7 : decode mb_R_put 7 = .ok (.aload_n 0, 1) := by decide +kernel
theorem dc_R_put_8 : decode mb_R_put 8 = .ok (.getfield 15, 3) := by decide +kernel
theorem dc_R_put_11 : decode mb_R_put 11 = .ok (.iload_n 1, 1) := by decide +kernel
theorem dc_R_put_12 : decode mb_R_put 12 = .ok (.iload 4, 2) := by decide +kernel
theorem dc_R_put_14 : decode mb_R_put 14 = .ok (.iastore, 1) := by decide +kernel
theorem dc_R_put_15 : decode mb_R_put 15 = .ok (.return_, 1) := by decide +kernel
theorem dc_R_take_0 : decode mb_R_take 0 = .ok (.aload_n 0, 1) := by decide +kernel
theorem dc_R_take_1 : decode mb_R_take 1 = .ok (.getfield 9, 3) := by decide +kernel
theorem dc_R_take_4 : decode mb_R_take 4 = .ok (.iload_n 1, 1) := by decide +kernel
theorem dc_R_take_5 : decode mb_R_take 5 = .ok (.aload_n 2, 1) := by decide +kernel
theorem dc_R_take_6 : decode mb_R_take 6 = .ok (.getfield 9, 3) := by decide +kernel
theorem dc_R_take_9 : decode mb_R_take 9 = .ok (.iload_n 3, 1) := by decide +kernel
theorem dc_R_take_10 : decode mb_R_take 10 = .ok (.laload, 1) := by decide +kernel
theorem dc_R_take_11 : decode mb_R_take 11 = .ok (.lastore, 1) := by decide +kernel
theorem dc_R_take_12 : decode mb_R_take 12 = .ok (.aload_n 0, 1) := by decide +kernel
theorem dc_R_take_13 : decode mb_R_take 13 = .ok (.getfield 15, 3) := by decide +kernel
theorem dc_R_take_16 : decode mb_R_take 16 = .ok (.iload_n 1, 1) := by decide +kernel
theorem dc_R_take_17 : decode mb_R_take 17 = .ok (.aload_n 2, 1) := by decide +kernel
theorem dc_R_take_18 : decode mb_R_take 18 = .ok (.getfield 15, 3) := by decide +kernel
theorem dc_R_take_21 : decode mb_R_take 21 = .ok (.iload_n 3, 1) := by decide +kernel
theorem dc_R_take_22 : decode mb_R_take 22 = .ok (.iaload, 1) := by decide +kernel
theorem dc_R_take_23 : decode mb_R_take 23 = .ok (.iastore, 1) := by decide +kernel
theorem dc_R_take_24 : decode mb_R_take 24 = .ok (.return_, 1) := by decide +kernel
theorem dc_R_takeMany_0 : decode mb_R_takeMany 0 = .ok (.aload_n 2, 1) := by decide +kernel
theorem dc_R_takeMany_1 : decode mb_R_takeMany 1 = .ok (.getfield 9, 3) := by decide +kernel
theorem dc_R_takeMany_4 : decode mb_R_takeMany 4 = .ok (.iload_n 3, 1) := by decide +kernel
theorem dc_R_takeMany_5 : decode mb_R_takeMany 5 = .ok (.aload_n 0, 1) := by decide +kernel
theorem dc_R_takeMany_6 : decode mb_R_takeMany 6 = .ok (.getfield 9, 3) := by decide +kernel
theorem dc_R_takeMany_9 : decode mb_R_takeMany 9 = .ok (.iload_n 1, 1) := by decide +kernel
theorem dc_R_takeMany_10 : decode mb_R_takeMany 10 = .ok (.iload 4, 2) := by decide +kernel
theorem dc_R_takeMany_12 : decode mb_R_takeMany 12 = .ok (.invokestatic 23, 3) := by decide +kernel
theorem dc_R_takeMany_15 : decode mb_R_takeMany 15 = .ok (.aload_n 2, 1) := by decide +kernel
theorem dc_R_takeMany_16 : decode mb_R_takeMany 16 = .ok (.getfield 15, 3) := by decide +kernel
theorem dc_R_takeMany_19 : decode mb_R_takeMany 19 = .ok (.iload_n 3, 1) := by decide +kernel
theorem dc_R_takeMany_20 : decode mb_R_takeMany 20 = .ok (.aload_n 0, 1) := by decide +kernel
theorem dc_R_takeMany_21 : decode mb_R_takeMany 21 = .ok (.getfield 15, 3) := by decide +kernel
theorem dc_R_takeMany_24 : decode mb_R_takeMany 24 = .ok (.iload_n 1, 1) := by decide +kernel
theorem dc_R_takeMany_25 : decode mb_R_takeMany 25 = .ok (.iload 4, 2) := by decide +kernel
theorem dc_R_takeMany_27 : decode mb_R_takeMany 27 = .ok (.invokestatic 23, 3) := by decide +kernel
theorem dc_R_takeMany_30 : decode mb_R_takeMany 30 = .ok (.return_, 1) := by decide +kernel
theorem dc_R_becomeLike_0 : decode mb_R_becomeLike 0 = .ok (.aload_n 0, 1) := by decide +kernel
theorem dc_R_becomeLike_1 : decode mb_R_becomeLike 1 = .ok (.iconst 0, 1) := by decide +kernel
theorem dc_R_becomeLike_2 : decode mb_R_becomeLike 2 = .ok (.aload_n 1, 1) := by decide +kernel
theorem dc_R_becomeLike_3 : decode mb_R_becomeLike 3 = .ok (.iconst 0, 1) := by decide +kernel
theorem dc_R_becomeLike_4 : decode mb_R_becomeLike 4 = .ok (.aload_n 1, 1) := by decide +kernel
theorem dc_R_becomeLike_5 : decode mb_R_becomeLike 5 = .ok (.getfield 19, 3) := by decide +kernel
theorem dc_R_becomeLike_8 : decode mb_R_becomeLike 8 = .ok (.invokevirtual 29, 3) := by decide +kernel
theorem dc_R_becomeLike_11 : decode mb_R_becomeLike 11 = .ok (.aload_n 0, 1) := by decide +kernel
theorem dc_R_becomeLike_12 : decode mb_R_becomeLike 12 = .ok (.aload_n 1, 1) := by decide +kernel
theorem dc_R_becomeLike_13 : decode mb_R_becomeLike 13 = .ok (.getfield 19, 3) := by decide +kernel
theorem dc_R_becomeLike_16 : decode mb_R_becomeLike 16 = .ok (.putfield 19, 3) := by decide +kernel
theorem dc_R_becomeLike_19 : decode mb_R_becomeLike 19 = .ok (.return_, 1) := by decide +kernel
theorem dc_R_change_0 : decode mb_R_change 0 = .ok (.aload_n 0, 1) := by decide +kernel
theorem dc_R_change_1 : decode mb_R_change 1 = .ok (.getfield 9, 3) := by decide +kernel
theorem dc_R_change_4 : decode mb_R_change 4 = .ok (.iload_n 1, 1) := by decide +kernel
theorem dc_R_change_5 : decode mb_R_change 5 = .ok (.laload, 1) := by decide +kernel
theorem dc_R_change_6 : decode mb_R_change 6 = .ok (.lstore_n 3, 1) := by decide +kernel
theorem dc_R_change_7 : decode mb_R_change 7 = .ok (.aload_n 0, 1) := by decide +kernel
theorem dc_R_change_8 : decode mb_R_change 8 = .ok (.getfield 15, 3) := by decide +kernel
theorem dc_R_change_11 : decode mb_R_change 11 = .ok (.iload_n 1, 1) := by decide +kernel
theorem dc_R_change_12 : decode mb_R_change 12 = .ok (.iaload, 1) := by decide +kernel
theorem dc_R_change_13 : decode mb_R_change 13 = .ok (.istore 5, 2) := by decide +kernel
theorem dc_R_change_15 : decode mb_R_change 15 = .ok (.aload_n 0, 1) := by decide +kernel
theorem dc_R_change_16 : decode mb_R_change 16 = .ok (.iload_n 1, 1) := by decide +kernel
theorem dc_R_change_17 : decode mb_R_change 17 = .ok (.aload_n 0, 1) := by decide +kernel
theorem dc_R_change_18 : decode mb_R_change 18 = .ok (.iload_n 2, 1) := by decide +kernel
theorem dc_R_change_19 : decode mb_R_change 19 = .ok (.invokevirtual 33, 3) := by decide +kernel
theorem dc_R_change_22 : decode mb_R_change 22 = .ok (.aload_n 0, 1) := by decide +kernel
theorem dc_R_change_23 : decode mb_R_change 23 = .ok (.iload_n 2, 1) := by decide +kernel
theorem dc_R_change_24 : decode mb_R_change 24 = .ok (.lload_n 3, 1) := by decide +kernel
theorem dc_R_change_25 : decode mb_R_change 25 = .ok (.iload 5, 2) := by decide +kernel
theorem dc_R_change_27 : decode mb_R_change 27 = .ok (.invokevirtual 37, 3) := by decide +kernel
theorem dc_R_change_30 : decode mb_R_change 30 = .ok (.return_, 1) := by decide +kernel
set_option maxHeartbeats 4000000 in
set_option maxRecDepth 100000 in
theorem ct_R_put (l : Launch) (g : YG) (S : YS) (r : Nat) (hr : r < 6) (pl : Nat) (hp : pl < 1024) (k : Int64) (t : Int32) : yC l mn_R_put mb_R_put 5 none 0 g [.ref (g.ad (2 + r)), .int (nI (pl)), .long (k), .int (t)] S (fun v S' => v = none ∧ S' = yz S r (va_up (ye S r) pl (k, t))) := by
  refine yC_of (by decide) (Nat.le_of_ble_eq_true rfl) ?_
  intro o hl hg hB0 hE
  subst hl
  subst hg
  have hB : yB o mb_R_put "OrderBench$Row" := hB0
  have hm := hE.1
  show yW o (S) 0 [(0, .ref (o.G.ad (2 + r))), (1, .int (nI (pl))), (2, .long (k)), (4, .int (t))] []
  refine y_aload_n (pc' := 1) hB dc_R_put_0 rfl rfl 0 rfl ?_
  refine f_keys (r := r) (pc' := 4) hB dc_R_put_1 rfl (by omega) q_37 ?_
  refine y_iload_n (pc' := 5) hB dc_R_put_4 rfl rfl 1 rfl ?_
  refine y_lload_n (pc' := 6) hB dc_R_put_5 rfl rfl 2 rfl ?_
  refine y_last (c := 8 + r) (n := 1024) (j := pl) (pc' := 7) hB dc_R_put_6 rfl (by unfold yN; omega) (yk_row (by omega)).2.1 (by omega) (by decide) ?_
  refine y_aload_n (pc' := 8) hB dc_R_put_7 rfl rfl 0 rfl ?_
  refine f_tags (r := r) (pc' := 11) hB dc_R_put_8 rfl (by omega) q_44 ?_
  refine y_iload_n (pc' := 12) hB dc_R_put_11 rfl rfl 1 rfl ?_
  refine y_iload (pc' := 14) hB dc_R_put_12 rfl 3 rfl ?_
  refine y_iast (c := 14 + r) (n := 1024) (j := pl) (pc' := 15) hB dc_R_put_14 rfl (by unfold yN; omega) (yk_row (by omega)).2.2 (by omega) (by decide) ?_
  exact y_vret hB hE dc_R_put_15 ⟨rfl, yz_put S r pl k t⟩
set_option maxHeartbeats 4000000 in
set_option maxRecDepth 100000 in
theorem ct_R_take (l : Launch) (g : YG) (S : YS) (r : Nat) (hr : r < 6) (q : Nat) (hq : q < 6) (pl fr : Nat) (hp : pl < 1024) (hf : fr < 1024) : yC l mn_R_take mb_R_take 4 none 0 g [.ref (g.ad (2 + r)), .int (nI (pl)), .ref (g.ad (2 + q)), .int (nI (fr))] S (fun v S' => v = none ∧ S' = yz S r (va_up (ye S r) pl (ye S q fr))) := by
  refine yC_of (by decide) (Nat.le_of_ble_eq_true rfl) ?_
  intro o hl hg hB0 hE
  subst hl
  subst hg
  have hB : yB o mb_R_take "OrderBench$Row" := hB0
  have hm := hE.1
  show yW o (S) 0 [(0, .ref (o.G.ad (2 + r))), (1, .int (nI (pl))), (2, .ref (o.G.ad (2 + q))), (3, .int (nI (fr)))] []
  refine y_aload_n (pc' := 1) hB dc_R_take_0 rfl rfl 0 rfl ?_
  refine f_keys (r := r) (pc' := 4) hB dc_R_take_1 rfl (by omega) q_37 ?_
  refine y_iload_n (pc' := 5) hB dc_R_take_4 rfl rfl 1 rfl ?_
  refine y_aload_n (pc' := 6) hB dc_R_take_5 rfl rfl 2 rfl ?_
  refine f_keys (r := q) (pc' := 9) hB dc_R_take_6 rfl (by omega) q_37 ?_
  refine y_iload_n (pc' := 10) hB dc_R_take_9 rfl rfl 3 rfl ?_
  refine y_lald (c := 8 + q) (n := 1024) (j := fr) (pc' := 11) hB dc_R_take_10 rfl (by unfold yN; omega) (yk_row (by omega)).2.1 (by omega) (by decide) ?_
  refine y_last (c := 8 + r) (n := 1024) (j := pl) (pc' := 12) hB dc_R_take_11 rfl (by unfold yN; omega) (yk_row (by omega)).2.1 (by omega) (by decide) ?_
  refine y_aload_n (pc' := 13) hB dc_R_take_12 rfl rfl 0 rfl ?_
  refine f_tags (r := r) (pc' := 16) hB dc_R_take_13 rfl (by omega) q_44 ?_
  refine y_iload_n (pc' := 17) hB dc_R_take_16 rfl rfl 1 rfl ?_
  refine y_aload_n (pc' := 18) hB dc_R_take_17 rfl rfl 2 rfl ?_
  refine f_tags (r := q) (pc' := 21) hB dc_R_take_18 rfl (by omega) q_44 ?_
  refine y_iload_n (pc' := 22) hB dc_R_take_21 rfl rfl 3 rfl ?_
  refine y_iald (c := 14 + q) (n := 1024) (j := fr) (pc' := 23) hB dc_R_take_22 rfl (by unfold yN; omega) (yk_row (by omega)).2.2 (by omega) (by decide) ?_
  refine y_iast (c := 14 + r) (n := 1024) (j := pl) (pc' := 24) hB dc_R_take_23 rfl (by unfold yN; omega) (yk_row (by omega)).2.2 (by omega) (by decide) ?_
  exact y_vret hB hE dc_R_take_24 ⟨rfl, yz_put S r pl (gL S (8 + q) fr) (gI S (14 + q) fr)⟩
set_option maxHeartbeats 4000000 in
set_option maxRecDepth 100000 in
theorem ct_R_takeMany (l : Launch) (g : YG) (S : YS) (r : Nat) (hr : r < 6) (q : Nat) (hq : q < 6) (pl fr n : Nat) (hp : pl + n ≤ 1024) (hf : fr + n ≤ 1024) : yC l mn_R_takeMany mb_R_takeMany 5 none 1 g [.ref (g.ad (2 + r)), .int (nI (pl)), .ref (g.ad (2 + q)), .int (nI (fr)), .int (nI (n))] S (fun v S' => v = none ∧ S' = yz S r (va_cpy (ye S q) (ye S r) fr pl n)) := by
  refine yC_of (by decide) (Nat.le_of_ble_eq_true rfl) ?_
  intro o hl hg hB0 hE
  subst hl
  subst hg
  have hB : yB o mb_R_takeMany "OrderBench$Row" := hB0
  have hm := hE.1
  show yW o (S) 0 [(0, .ref (o.G.ad (2 + r))), (1, .int (nI (pl))), (2, .ref (o.G.ad (2 + q))), (3, .int (nI (fr))), (4, .int (nI (n)))] []
  refine y_aload_n (pc' := 1) hB dc_R_takeMany_0 rfl rfl 2 rfl ?_
  refine f_keys (r := q) (pc' := 4) hB dc_R_takeMany_1 rfl (by omega) q_37 ?_
  refine y_iload_n (pc' := 5) hB dc_R_takeMany_4 rfl rfl 3 rfl ?_
  refine y_aload_n (pc' := 6) hB dc_R_takeMany_5 rfl rfl 0 rfl ?_
  refine f_keys (r := r) (pc' := 9) hB dc_R_takeMany_6 rfl (by omega) q_37 ?_
  refine y_iload_n (pc' := 10) hB dc_R_takeMany_9 rfl rfl 1 rfl ?_
  refine y_iload (pc' := 12) hB dc_R_takeMany_10 rfl 4 rfl ?_
  refine y_copyl (lev := 0) (c0 := 8 + q) (c1 := 8 + r) (sp := fr) (dp := pl) (n := n) (pc' := 15) hB hE.2.2.1 dc_R_takeMany_12 rfl q_318 q_320 q_319 q_12 (by unfold yN; omega) (by unfold yN; omega) (yk_row (by omega)).2.1 (yk_row (by omega)).2.1 (by omega) (by omega) (by decide) (by decide) ?_
  refine y_aload_n (pc' := 16) hB dc_R_takeMany_15 rfl rfl 2 rfl ?_
  refine f_tags (r := q) (pc' := 19) hB dc_R_takeMany_16 rfl (by omega) q_44 ?_
  refine y_iload_n (pc' := 20) hB dc_R_takeMany_19 rfl rfl 3 rfl ?_
  refine y_aload_n (pc' := 21) hB dc_R_takeMany_20 rfl rfl 0 rfl ?_
  refine f_tags (r := r) (pc' := 24) hB dc_R_takeMany_21 rfl (by omega) q_44 ?_
  refine y_iload_n (pc' := 25) hB dc_R_takeMany_24 rfl rfl 1 rfl ?_
  refine y_iload (pc' := 27) hB dc_R_takeMany_25 rfl 4 rfl ?_
  refine y_copyi (lev := 0) (c0 := 14 + q) (c1 := 14 + r) (sp := fr) (dp := pl) (n := n) (pc' := 30) hB hE.2.2.1 dc_R_takeMany_27 rfl q_318 q_320 q_319 q_12 (by unfold yN; omega) (by unfold yN; omega) (yk_row (by omega)).2.2 (yk_row (by omega)).2.2 (by omega) (by omega) (by decide) (by decide) ?_
  exact y_vret hB hE dc_R_takeMany_30 ⟨rfl, yz_cpy S r q fr pl n⟩
set_option maxHeartbeats 4000000 in
set_option maxRecDepth 100000 in
theorem ct_R_becomeLike (l : Launch) (g : YG) (S : YS) (r : Nat) (hr : r < 6) (q : Nat) (hq : q < 6) (n : Nat) (hn : n ≤ 1024) (hc : gF S (2 + q) 2 = nI n) : yC l mn_R_becomeLike mb_R_becomeLike 2 none 2 g [.ref (g.ad (2 + r)), .ref (g.ad (2 + q))] S (fun v S' => v = none ∧ S' = sF (yz S r (va_cpy (ye S q) (ye S r) 0 0 n)) (2 + r) 2 (nI n)) := by
  refine yC_of (by decide) (Nat.le_of_ble_eq_true rfl) ?_
  intro o hl hg hB0 hE
  subst hl
  subst hg
  have hB : yB o mb_R_becomeLike "OrderBench$Row" := hB0
  have hm := hE.1
  show yW o (S) 0 [(0, .ref (o.G.ad (2 + r))), (1, .ref (o.G.ad (2 + q)))] []
  refine y_aload_n (pc' := 1) hB dc_R_becomeLike_0 rfl rfl 0 rfl ?_
  refine y_iconst (v := nI 0) (pc' := 2) hB dc_R_becomeLike_1 rfl rfl ?_
  refine y_aload_n (pc' := 3) hB dc_R_becomeLike_2 rfl rfl 1 rfl ?_
  refine y_iconst (v := nI 0) (pc' := 4) hB dc_R_becomeLike_3 rfl rfl ?_
  refine y_aload_n (pc' := 5) hB dc_R_becomeLike_4 rfl rfl 1 rfl ?_
  refine f_count (r := q) (pc' := 8) hB dc_R_becomeLike_5 rfl (by omega) q_50 ?_
  refine y_topi (y := nI (n)) hc ?_
  refine y_callV (c := 2 + r) (ci := 1) (As := [.int (nI (0)), .ref (o.G.ad (2 + q)), .int (nI (0)), .int (nI (n))]) (rest := []) (pc' := 11) hB hE (ct_R_takeMany o.l o.G S r hr q hq 0 0 n (by omega) (by omega)) mm_R_takeMany q_314 q_315 q_316 (by unfold yN; omega) (yk_row (by omega)).1 rfl dc_R_becomeLike_8 rfl (by decide) rfl rfl (by decide) (fun v S' hpost => ?_)
  obtain ⟨rfl, rfl⟩ := hpost
  show yW o (yz S r (va_cpy (ye S q) (ye S r) 0 0 n)) 11 [(0, .ref (o.G.ad (2 + r))), (1, .ref (o.G.ad (2 + q)))] []
  refine y_aload_n (pc' := 12) hB dc_R_becomeLike_11 rfl rfl 0 rfl ?_
  refine y_aload_n (pc' := 13) hB dc_R_becomeLike_12 rfl rfl 1 rfl ?_
  refine f_count (r := q) (pc' := 16) hB dc_R_becomeLike_13 rfl (by omega) q_50 ?_
  refine y_topi (y := nI (n)) hc ?_
  refine p_count (r := r) (pc' := 19) hB dc_R_becomeLike_16 rfl (by omega) q_50 ?_
  exact y_vret hB hE dc_R_becomeLike_19 ⟨rfl, rfl⟩
/-- two entries change places -/
def zw {α : Type} (f : Nat → α) (i j : Nat) : Nat → α := va_up (va_up f i (f j)) j (f i)
set_option maxHeartbeats 4000000 in
set_option maxRecDepth 100000 in
theorem ct_R_change (l : Launch) (g : YG) (S : YS) (r : Nat) (hr : r < 6) (i j : Nat) (hi : i < 1024) (hj : j < 1024) : yC l mn_R_change mb_R_change 6 none 1 g [.ref (g.ad (2 + r)), .int (nI (i)), .int (nI (j))] S (fun v S' => v = none ∧ S' = yz S r (zw (ye S r) i j)) := by
  refine yC_of (by decide) (Nat.le_of_ble_eq_true rfl) ?_
  intro o hl hg hB0 hE
  subst hl
  subst hg
  have hB : yB o mb_R_change "OrderBench$Row" := hB0
  have hm := hE.1
  show yW o (S) 0 [(0, .ref (o.G.ad (2 + r))), (1, .int (nI (i))), (2, .int (nI (j)))] []
  refine y_aload_n (pc' := 1) hB dc_R_change_0 rfl rfl 0 rfl ?_
  refine f_keys (r := r) (pc' := 4) hB dc_R_change_1 rfl (by omega) q_37 ?_
  refine y_iload_n (pc' := 5) hB dc_R_change_4 rfl rfl 1 rfl ?_
  refine y_lald (c := 8 + r) (n := 1024) (j := i) (pc' := 6) hB dc_R_change_5 rfl (by unfold yN; omega) (yk_row (by omega)).2.1 (by omega) (by decide) ?_
  refine y_lstore_n (pc' := 7) (lv' := [(3, .long (gL (S) (8 + r) (i))), (0, .ref (o.G.ad (2 + r))), (1, .int (nI (i))), (2, .int (nI (j)))]) hB hm dc_R_change_6 rfl rfl (by decide) rfl ?_
  refine y_aload_n (pc' := 8) hB dc_R_change_7 rfl rfl 1 rfl ?_
  refine f_tags (r := r) (pc' := 11) hB dc_R_change_8 rfl (by omega) q_44 ?_
  refine y_iload_n (pc' := 12) hB dc_R_change_11 rfl rfl 2 rfl ?_
  refine y_iald (c := 14 + r) (n := 1024) (j := i) (pc' := 13) hB dc_R_change_12 rfl (by unfold yN; omega) (yk_row (by omega)).2.2 (by omega) (by decide) ?_
  refine y_istore (pc' := 15) (lv' := [(5, .int (gI (S) (14 + r) (i))), (3, .long (gL (S) (8 + r) (i))), (0, .ref (o.G.ad (2 + r))), (1, .int (nI (i))), (2, .int (nI (j)))]) hB hm dc_R_change_13 rfl (by decide) rfl ?_
  refine y_aload_n (pc' := 16) hB dc_R_change_15 rfl rfl 2 rfl ?_
  refine y_iload_n (pc' := 17) hB dc_R_change_16 rfl rfl 3 rfl ?_
  refine y_aload_n (pc' := 18) hB dc_R_change_17 rfl rfl 2 rfl ?_
  refine y_iload_n (pc' := 19) hB dc_R_change_18 rfl rfl 4 rfl ?_
  refine y_callV (c := 2 + r) (ci := 1) (As := [.int (nI (i)), .ref (o.G.ad (2 + r)), .int (nI (j))]) (rest := []) (pc' := 22) hB hE (ct_R_take o.l o.G S r hr r hr i j hi hj) mm_R_take q_291 q_292 q_293 (by unfold yN; omega) (yk_row (by omega)).1 rfl dc_R_change_19 rfl (by decide) rfl rfl (by decide) (fun v S' hpost => ?_)
  obtain ⟨rfl, rfl⟩ := hpost
  show yW o (yz S r (va_up (ye S r) i (ye S r j))) 22 [(5, .int (gI (S) (14 + r) (i))), (3, .long (gL (S) (8 + r) (i))), (0, .ref (o.G.ad (2 + r))), (1, .int (nI (i))), (2, .int (nI (j)))] []
  refine y_aload_n (pc' := 23) hB dc_R_change_22 rfl rfl 2 rfl ?_
  refine y_iload_n (pc' := 24) hB dc_R_change_23 rfl rfl 4 rfl ?_
  refine y_lload_n (pc' := 25) hB dc_R_change_24 rfl rfl 1 rfl ?_
  refine y_iload (pc' := 27) hB dc_R_change_25 rfl 0 rfl ?_
  refine y_callV (c := 2 + r) (ci := 1) (As := [.int (nI (j)), .long (gL (S) (8 + r) (i)), .int (gI (S) (14 + r) (i))]) (rest := []) (pc' := 30) hB hE (ct_R_put o.l o.G _ r hr j hj (gL S (8 + r) i) (gI S (14 + r) i)) mm_R_put q_295 q_226 q_227 (by unfold yN; omega) (yk_row (by omega)).1 rfl dc_R_change_27 rfl (by decide) rfl rfl (by decide) (fun v S' hpost => ?_)
  obtain ⟨rfl, rfl⟩ := hpost
  show yW o (yz (yz S r (va_up (ye S r) i (ye S r j))) r (va_up (ye (yz S r (va_up (ye S r) i (ye S r j))) r) j (gL S (8 + r) i, gI S (14 + r) i))) 30 [(5, .int (gI (S) (14 + r) (i))), (3, .long (gL (S) (8 + r) (i))), (0, .ref (o.G.ad (2 + r))), (1, .int (nI (i))), (2, .int (nI (j)))] []
  refine y_vret hB hE dc_R_change_30 ⟨rfl, ?_⟩
  rw [yz_yz, ye_yz]
  rfl
