/-! CLASS: what throws -/
def zgB (b : Nat) (x : Int32) : Prop := ¬ x < 0 ∧ x ≤ nI b
theorem zgB_nI {x : Int32} {b : Nat} (hb : b < 2 ^ 31) (h : zgB b x) : ∃ k, k ≤ b ∧ x = nI k := zg_nI hb h.1 h.2
theorem zi_lt {x : Int32} {b : Nat} (hb : b + 1 < 2 ^ 31) : x < nI (b + 1) ↔ x ≤ nI b := by
  rw [Int32.lt_iff_toInt_lt, Int32.le_iff_toInt_le, nI_toInt hb, nI_toInt (by omega)]
  omega
/-- a place below n -/
def zgE (n : Nat) (x : Int32) : Prop := ¬ x < 0 ∧ x < nI n
theorem zgE_nI {x : Int32} {n : Nat} (hn : n < 2 ^ 31) (h : zgE n x) : ∃ k, k < n ∧ x = nI k := by
  cases n with
  | zero => exact absurd h.2 h.1
  | succ n =>
    obtain ⟨k, h1, h2⟩ := zg_nI (by omega) h.1 ((zi_lt hn).mp h.2)
    exact ⟨k, by omega, h2⟩
set_option maxHeartbeats 4000000 in
set_option maxRecDepth 100000 in
theorem cx_rowAt (l : Launch) (hs : l.stackTraces = false) (g : YG) (S : YS) (a : Int32) (h : ¬ zgr a) : yX l mn_B_rowAt mb_B_rowAt 2 (some (.object "OrderBench$Row")) 6 g [.ref (g.ad (0)), .int (a)] S yXI (fun S' => S' = S) := by
  refine yX_of hs (by decide) (Nat.le_of_ble_eq_true rfl) ?_
  intro o hl hg hB0 hE
  subst hl
  subst hg
  have hB : yB o mb_B_rowAt "OrderBench" := hB0
  have hm := hE.1
  show yW o (S) 0 [(0, .ref (o.G.ad (0))), (1, .int (a))] []
  refine y_iload_n (pc' := 1) hB dc_B_rowAt_0 rfl rfl 1 rfl ?_
  refine y_if_lt (x := a) (pc' := 4) (tg := 9) hB dc_B_rowAt_1 rfl rfl (fun b1 => ?_) (fun b1 => ?_)
  · exact y_throw (is := 215) (text := "there is no such row") hB hE (by decide) xOk_I (by decide +kernel) dc_B_rowAt_9 dc_B_rowAt_12 dc_B_rowAt_13 dc_B_rowAt_15 dc_B_rowAt_18 rfl
  · refine y_iload_n (pc' := 5) hB dc_B_rowAt_4 rfl rfl 1 rfl ?_
    refine y_iconst (v := nI 4) (pc' := 6) hB dc_B_rowAt_5 rfl rfl ?_
    refine y_icmp_lt (x := a) (y := nI (4)) (pc' := 9) (tg := 19) hB dc_B_rowAt_6 rfl rfl (fun b2 => ?_) (fun b2 => ?_)
    · exact absurd ⟨b1, (zi_lt (by decide)).mp b2⟩ h
    · exact y_throw (is := 215) (text := "there is no such row") hB hE (by decide) xOk_I (by decide +kernel) dc_B_rowAt_9 dc_B_rowAt_12 dc_B_rowAt_13 dc_B_rowAt_15 dc_B_rowAt_18 rfl
set_option maxHeartbeats 4000000 in
set_option maxRecDepth 100000 in
theorem cx_checkEntry (l : Launch) (hs : l.stackTraces = false) (g : YG) (S : YS) (r : Nat) (hr : r < 6) (n : Nat) (hc : gF S (2 + r) 2 = nI n) (i : Int32) (h : ¬ zgE n i) : yX l mn_B_checkEntry mb_B_checkEntry 2 none 6 g [.ref (g.ad (2 + r)), .int (i)] S yXI (fun S' => S' = S) := by
  refine yX_of hs (by decide) (Nat.le_of_ble_eq_true rfl) ?_
  intro o hl hg hB0 hE
  subst hl
  subst hg
  have hB : yB o mb_B_checkEntry "OrderBench" := hB0
  have hm := hE.1
  show yW o (S) 0 [(0, .ref (o.G.ad (2 + r))), (1, .int (i))] []
  refine y_iload_n (pc' := 1) hB dc_B_checkEntry_0 rfl rfl 1 rfl ?_
  refine y_if_lt (x := i) (pc' := 4) (tg := 12) hB dc_B_checkEntry_1 rfl rfl (fun b1 => ?_) (fun b1 => ?_)
  · exact y_throw (is := 218) (text := "there is no such entry") hB hE (by decide) xOk_I (by decide +kernel) dc_B_checkEntry_12 dc_B_checkEntry_15 dc_B_checkEntry_16 dc_B_checkEntry_18 dc_B_checkEntry_21 rfl
  · refine y_iload_n (pc' := 5) hB dc_B_checkEntry_4 rfl rfl 1 rfl ?_
    refine y_aload_n (pc' := 6) hB dc_B_checkEntry_5 rfl rfl 0 rfl ?_
    refine f_count (r := r) (pc' := 9) hB dc_B_checkEntry_6 rfl (by omega) q_53 ?_
    refine y_topi (y := nI n) hc ?_
    refine y_icmp_lt (x := i) (y := nI n) (pc' := 12) (tg := 22) hB dc_B_checkEntry_9 rfl rfl (fun b2 => ?_) (fun b2 => ?_)
    · exact absurd ⟨b1, b2⟩ h
    · exact y_throw (is := 218) (text := "there is no such entry") hB hE (by decide) xOk_I (by decide +kernel) dc_B_checkEntry_12 dc_B_checkEntry_15 dc_B_checkEntry_16 dc_B_checkEntry_18 dc_B_checkEntry_21 rfl
set_option maxHeartbeats 4000000 in
set_option maxRecDepth 100000 in
theorem cx_checkOrder (l : Launch) (hs : l.stackTraces = false) (g : YG) (S : YS) (a : Int32) (h : ¬ zgo a) : yX l mn_B_checkOrder mb_B_checkOrder 1 none 6 g [.int (a)] S yXA (fun S' => S' = S) := by
  refine yX_of hs (by decide) (Nat.le_of_ble_eq_true rfl) ?_
  intro o hl hg hB0 hE
  subst hl
  subst hg
  have hB : yB o mb_B_checkOrder "OrderBench" := hB0
  have hm := hE.1
  show yW o (S) 0 [(0, .int (a))] []
  refine y_iload_n (pc' := 1) hB dc_B_checkOrder_0 rfl rfl 0 rfl ?_
  refine y_if_lt (x := a) (pc' := 4) (tg := 10) hB dc_B_checkOrder_1 rfl rfl (fun b1 => ?_) (fun b1 => ?_)
  · exact y_throw (is := 220) (text := "there is no such order") hB hE (by decide) xOk_A (by decide +kernel) dc_B_checkOrder_10 dc_B_checkOrder_13 dc_B_checkOrder_14 dc_B_checkOrder_16 dc_B_checkOrder_19 rfl
  · refine y_iload_n (pc' := 5) hB dc_B_checkOrder_4 rfl rfl 0 rfl ?_
    refine y_bipush (v := nI 7) (pc' := 7) hB dc_B_checkOrder_5 rfl (by decide) ?_
    refine y_icmp_le (x := a) (y := nI (7)) (pc' := 10) (tg := 20) hB dc_B_checkOrder_7 rfl rfl (fun b2 => ?_) (fun b2 => ?_)
    · exact absurd ⟨b1, b2⟩ h
    · exact y_throw (is := 220) (text := "there is no such order") hB hE (by decide) xOk_A (by decide +kernel) dc_B_checkOrder_10 dc_B_checkOrder_13 dc_B_checkOrder_14 dc_B_checkOrder_16 dc_B_checkOrder_19 rfl
set_option maxHeartbeats 4000000 in
set_option maxRecDepth 100000 in
theorem cx_checkWay (l : Launch) (hs : l.stackTraces = false) (g : YG) (S : YS) (a b : Int32) (h : ¬ zgB 6 a) : yX l mn_B_checkWay mb_B_checkWay 2 none 6 g [.int (a), .int (b)] S yXA (fun S' => S' = S) := by
  refine yX_of hs (by decide) (Nat.le_of_ble_eq_true rfl) ?_
  intro o hl hg hB0 hE
  subst hl
  subst hg
  have hB : yB o mb_B_checkWay "OrderBench" := hB0
  have hm := hE.1
  show yW o (S) 0 [(0, .int (a)), (1, .int (b))] []
  refine y_iload_n (pc' := 1) hB dc_B_checkWay_0 rfl rfl 0 rfl ?_
  refine y_if_lt (x := a) (pc' := 4) (tg := 10) hB dc_B_checkWay_1 rfl rfl (fun b1 => ?_) (fun b1 => ?_)
  · exact y_throw (is := 222) (text := "there is no such way") hB hE (by decide) xOk_A (by decide +kernel) dc_B_checkWay_10 dc_B_checkWay_13 dc_B_checkWay_14 dc_B_checkWay_16 dc_B_checkWay_19 rfl
  · refine y_iload_n (pc' := 5) hB dc_B_checkWay_4 rfl rfl 0 rfl ?_
    refine y_bipush (v := nI 6) (pc' := 7) hB dc_B_checkWay_5 rfl (by decide) ?_
    refine y_icmp_le (x := a) (y := nI (6)) (pc' := 10) (tg := 20) hB dc_B_checkWay_7 rfl rfl (fun b2 => ?_) (fun b2 => ?_)
    · exact absurd ⟨b1, b2⟩ h
    · exact y_throw (is := 222) (text := "there is no such way") hB hE (by decide) xOk_A (by decide +kernel) dc_B_checkWay_10 dc_B_checkWay_13 dc_B_checkWay_14 dc_B_checkWay_16 dc_B_checkWay_19 rfl
set_option maxHeartbeats 4000000 in
set_option maxRecDepth 100000 in
theorem cx_checkWay6 (l : Launch) (hs : l.stackTraces = false) (g : YG) (S : YS) (od : Nat) (ho : od < 8) (h : ¬ (od = 0 ∨ od = 1 ∨ od = 2 ∨ od = 5)) : yX l mn_B_checkWay mb_B_checkWay 2 none 6 g [.int (nI (6)), .int (nI (od))] S yXA (fun S' => S' = S) := by
  refine yX_of hs (by decide) (Nat.le_of_ble_eq_true rfl) ?_
  intro o hl hg hB0 hE
  subst hl
  subst hg
  have hB : yB o mb_B_checkWay "OrderBench" := hB0
  have hm := hE.1
  show yW o (S) 0 [(0, .int (nI (6))), (1, .int (nI (od)))] []
  refine y_iload_n (pc' := 1) hB dc_B_checkWay_0 rfl rfl 0 rfl ?_
  refine n_if_lt (pc' := 4) (tg := 10) hB dc_B_checkWay_1 rfl rfl (by omega) ?_
  refine y_iload_n (pc' := 5) hB dc_B_checkWay_4 rfl rfl 0 rfl ?_
  refine y_bipush (v := nI 6) (pc' := 7) hB dc_B_checkWay_5 rfl (by decide) ?_
  refine n_icmp_le (pc' := 10) (tg := 20) hB dc_B_checkWay_7 rfl rfl (by omega) (by omega) (fun b2 => ?_) (fun b2 => ?_)
  · refine y_iload_n (pc' := 21) hB dc_B_checkWay_20 rfl rfl 0 rfl ?_
    refine y_bipush (v := nI 6) (pc' := 23) hB dc_B_checkWay_21 rfl (by decide) ?_
    refine n_icmp_ne (pc' := 26) (tg := 43) hB dc_B_checkWay_23 rfl rfl (by omega) (by omega) (fun b3 => ?_) (fun b3 => ?_)
    · omega
    · refine y_iload_n (pc' := 27) hB dc_B_checkWay_26 rfl rfl 1 rfl ?_
      refine y_gS (As := [.int (nI (od))]) (rest := []) (pc' := 30) hB (hE.fit (by decide) (by decide)) (hE.rm (by decide) (by decide)) (ct_C_serves o.l o.G S od ho) mm_C_serves q_357 q_358 dc_B_checkWay_27 rfl rfl rfl (Nat.le_of_ble_eq_true rfl) (fun v S' hpost => ?_)
      obtain ⟨rfl, hSS⟩ := hpost
      rw [hSS]
      clear hSS S'
      show yW o (S) 30 [(0, .int (nI (6))), (1, .int (nI (od)))] [.int (yb (decide (od = 0 ∨ od = 1 ∨ od = 2 ∨ od = 5)))]
      refine y_if_ne (x := yb (decide (od = 0 ∨ od = 1 ∨ od = 2 ∨ od = 5))) (pc' := 33) (tg := 43) hB dc_B_checkWay_30 rfl rfl (fun b4 => ?_) (fun b4 => ?_)
      · rw [yb_n, decide_eq_true_eq] at b4
        exact absurd b4 h
      · exact y_throw (is := 227) (text := "that way is not for that order") hB hE (by decide) xOk_A (by decide +kernel) dc_B_checkWay_33 dc_B_checkWay_36 dc_B_checkWay_37 dc_B_checkWay_39 dc_B_checkWay_42 rfl
  · omega
set_option maxHeartbeats 4000000 in
set_option maxRecDepth 100000 in
theorem cx_judgeBy (l : Launch) (hs : l.stackTraces = false) (g : YG) (S : YS) (a : Int32) (h : ¬ zgo a) : yX l mn_B_judgeBy mb_B_judgeBy 2 none 7 g [.ref (g.ad (0)), .int (a)] S yXA (fun S' => S' = S) := by
  refine yX_of hs (by decide) (Nat.le_of_ble_eq_true rfl) ?_
  intro o hl hg hB0 hE
  subst hl
  subst hg
  have hB : yB o mb_B_judgeBy "OrderBench" := hB0
  have hm := hE.1
  show yW o (S) 0 [(0, .ref (o.G.ad (0))), (1, .int (a))] []
  refine y_iload_n (pc' := 1) hB dc_B_judgeBy_0 rfl rfl 1 rfl ?_
  refine y_xS (As := [.int (a)]) (rest := []) hB (hE.fit (by decide) (by decide)) (hE.rm (by decide) (by decide)) (cx_checkOrder o.l hs o.G S a h) mm_B_checkOrder q_349 q_350 dc_B_judgeBy_1 rfl rfl (Nat.le_of_ble_eq_true rfl) (fun S' hpost => ?_)
  exact y_out hB hE hpost
set_option maxHeartbeats 4000000 in
set_option maxRecDepth 100000 in
theorem cx_checkInOrder (l : Launch) (hs : l.stackTraces = false) (g : YG) (S : YS) (od : Nat) (tg : Bool) (c : Nat) (hJ : yJ S od tg c) (r : Nat) (hr : r < 6) (n : Nat) (hn : n ≤ 1024) (hc : gF S (2 + r) 2 = nI n) (ho : ¬ zo (zq od tg) (zs (ye S r) 0 n)) : yX l mn_B_checkInOrder mb_B_checkInOrder 2 none 7 g [.ref (g.ad (0)), .ref (g.ad (2 + r))] S yXS (fun S' => yU S S') := by
  refine yX_of hs (by decide) (Nat.le_of_ble_eq_true rfl) ?_
  intro o hl hg hB0 hE
  subst hl
  subst hg
  have hB : yB o mb_B_checkInOrder "OrderBench" := hB0
  have hm := hE.1
  show yW o (S) 0 [(0, .ref (o.G.ad (0))), (1, .ref (o.G.ad (2 + r)))] []
  refine y_aload_n (pc' := 1) hB dc_B_checkInOrder_0 rfl rfl 0 rfl ?_
  refine y_aload_n (pc' := 2) hB dc_B_checkInOrder_1 rfl rfl 1 rfl ?_
  refine y_gV (c := 0) (ci := 0) (As := [.ref (o.G.ad (2 + r))]) (rest := []) (pc' := 5) hB (hE.fit (by decide) (by decide)) (hE.rm (by decide) (by decide)) (ct_B_isInOrder o.l o.G S od tg c hJ r hr n hn hc) mm_B_isInOrder q_544 q_546 qs_9 (by decide) rfl rfl dc_B_checkInOrder_2 rfl rfl rfl (Nat.le_of_ble_eq_true rfl) (fun v S' hpost => ?_)
  obtain ⟨bo, c1, rfl, rfl, hbo⟩ := hpost
  show yW o (yq S c1) 5 [(0, .ref (o.G.ad (0))), (1, .ref (o.G.ad (2 + r)))] [.int (yb bo)]
  refine y_if_ne (x := yb bo) (pc' := 8) (tg := 18) hB dc_B_checkInOrder_5 rfl rfl (fun b1 => ?_) (fun b1 => ?_)
  · rw [yb_n] at b1
    exact absurd (hbo.mp b1) ho
  · exact y_throw (is := 229) (text := "the row is not in this order") hB hE (by decide) xOk_S (by decide +kernel) dc_B_checkInOrder_8 dc_B_checkInOrder_11 dc_B_checkInOrder_12 dc_B_checkInOrder_14 dc_B_checkInOrder_17 (yU_yq S c1)
set_option maxHeartbeats 4000000 in
set_option maxRecDepth 100000 in
theorem cx_B_add_row (l : Launch) (hs : l.stackTraces = false) (g : YG) (S : YS) (a : Int32) (b : Int64) (c : Int32) (h : ¬ zgr a) : yX l mn_B_add mb_B_add 6 (some .int) 9 g [.ref (g.ad (0)), .int (a), .long (b), .int (c)] S yXI (fun S' => yU S S') := by
  refine yX_of hs (by decide) (Nat.le_of_ble_eq_true rfl) ?_
  intro o hl hg hB0 hE
  subst hl
  subst hg
  have hB : yB o mb_B_add "OrderBench" := hB0
  have hm := hE.1
  show yW o (S) 0 [(0, .ref (o.G.ad (0))), (1, .int (a)), (2, .long (b)), (4, .int (c))] []
  refine y_aload_n (pc' := 1) hB dc_B_add_0 rfl rfl 0 rfl ?_
  refine y_iload_n (pc' := 2) hB dc_B_add_1 rfl rfl 1 rfl ?_
  refine y_xV (c := 0) (ci := 0) (As := [.int (a)]) (rest := []) hB (hE.fit (by decide) (by decide)) (hE.rm (by decide) (by decide)) (cx_rowAt o.l hs o.G (S) a h) mm_B_rowAt q_137 q_139 qs_0 (by decide) rfl rfl dc_B_add_2 rfl rfl (Nat.le_of_ble_eq_true rfl) (fun S' hpost => ?_)
  exact y_out hB hE (by rw [hpost]; exact yU.rf S)
set_option maxHeartbeats 4000000 in
set_option maxRecDepth 100000 in
theorem cx_B_fill_row (l : Launch) (hs : l.stackTraces = false) (g : YG) (S : YS) (a : Int32) (b : Int32) (c : Int32) (d : Int64) (e : Int32) (h : ¬ zgr a) : yX l mn_B_fill mb_B_fill 9 none 9 g [.ref (g.ad (0)), .int (a), .int (b), .int (c), .long (d), .int (e)] S yXI (fun S' => yU S S') := by
  refine yX_of hs (by decide) (Nat.le_of_ble_eq_true rfl) ?_
  intro o hl hg hB0 hE
  subst hl
  subst hg
  have hB : yB o mb_B_fill "OrderBench" := hB0
  have hm := hE.1
  show yW o (S) 0 [(0, .ref (o.G.ad (0))), (1, .int (a)), (2, .int (b)), (3, .int (c)), (4, .long (d)), (6, .int (e))] []
  refine y_aload_n (pc' := 1) hB dc_B_fill_0 rfl rfl 0 rfl ?_
  refine y_iload_n (pc' := 2) hB dc_B_fill_1 rfl rfl 1 rfl ?_
  refine y_xV (c := 0) (ci := 0) (As := [.int (a)]) (rest := []) hB (hE.fit (by decide) (by decide)) (hE.rm (by decide) (by decide)) (cx_rowAt o.l hs o.G (S) a h) mm_B_rowAt q_137 q_139 qs_0 (by decide) rfl rfl dc_B_fill_2 rfl rfl (Nat.le_of_ble_eq_true rfl) (fun S' hpost => ?_)
  exact y_out hB hE (by rw [hpost]; exact yU.rf S)
set_option maxHeartbeats 4000000 in
set_option maxRecDepth 100000 in
theorem cx_B_cut_row (l : Launch) (hs : l.stackTraces = false) (g : YG) (S : YS) (a : Int32) (b : Int32) (h : ¬ zgr a) : yX l mn_B_cut mb_B_cut 4 none 9 g [.ref (g.ad (0)), .int (a), .int (b)] S yXI (fun S' => yU S S') := by
  refine yX_of hs (by decide) (Nat.le_of_ble_eq_true rfl) ?_
  intro o hl hg hB0 hE
  subst hl
  subst hg
  have hB : yB o mb_B_cut "OrderBench" := hB0
  have hm := hE.1
  show yW o (S) 0 [(0, .ref (o.G.ad (0))), (1, .int (a)), (2, .int (b))] []
  refine y_aload_n (pc' := 1) hB dc_B_cut_0 rfl rfl 0 rfl ?_
  refine y_iload_n (pc' := 2) hB dc_B_cut_1 rfl rfl 1 rfl ?_
  refine y_xV (c := 0) (ci := 0) (As := [.int (a)]) (rest := []) hB (hE.fit (by decide) (by decide)) (hE.rm (by decide) (by decide)) (cx_rowAt o.l hs o.G (S) a h) mm_B_rowAt q_137 q_139 qs_0 (by decide) rfl rfl dc_B_cut_2 rfl rfl (Nat.le_of_ble_eq_true rfl) (fun S' hpost => ?_)
  exact y_out hB hE (by rw [hpost]; exact yU.rf S)
set_option maxHeartbeats 4000000 in
set_option maxRecDepth 100000 in
theorem cx_B_swap_row (l : Launch) (hs : l.stackTraces = false) (g : YG) (S : YS) (a : Int32) (b : Int32) (c : Int32) (h : ¬ zgr a) : yX l mn_B_swap mb_B_swap 5 none 9 g [.ref (g.ad (0)), .int (a), .int (b), .int (c)] S yXI (fun S' => yU S S') := by
  refine yX_of hs (by decide) (Nat.le_of_ble_eq_true rfl) ?_
  intro o hl hg hB0 hE
  subst hl
  subst hg
  have hB : yB o mb_B_swap "OrderBench" := hB0
  have hm := hE.1
  show yW o (S) 0 [(0, .ref (o.G.ad (0))), (1, .int (a)), (2, .int (b)), (3, .int (c))] []
  refine y_aload_n (pc' := 1) hB dc_B_swap_0 rfl rfl 0 rfl ?_
  refine y_iload_n (pc' := 2) hB dc_B_swap_1 rfl rfl 1 rfl ?_
  refine y_xV (c := 0) (ci := 0) (As := [.int (a)]) (rest := []) hB (hE.fit (by decide) (by decide)) (hE.rm (by decide) (by decide)) (cx_rowAt o.l hs o.G (S) a h) mm_B_rowAt q_137 q_139 qs_0 (by decide) rfl rfl dc_B_swap_2 rfl rfl (Nat.le_of_ble_eq_true rfl) (fun S' hpost => ?_)
  exact y_out hB hE (by rw [hpost]; exact yU.rf S)
set_option maxHeartbeats 4000000 in
set_option maxRecDepth 100000 in
theorem cx_B_number_row (l : Launch) (hs : l.stackTraces = false) (g : YG) (S : YS) (a : Int32) (h : ¬ zgr a) : yX l mn_B_number mb_B_number 2 none 9 g [.ref (g.ad (0)), .int (a)] S yXI (fun S' => yU S S') := by
  refine yX_of hs (by decide) (Nat.le_of_ble_eq_true rfl) ?_
  intro o hl hg hB0 hE
  subst hl
  subst hg
  have hB : yB o mb_B_number "OrderBench" := hB0
  have hm := hE.1
  show yW o (S) 0 [(0, .ref (o.G.ad (0))), (1, .int (a))] []
  refine y_aload_n (pc' := 1) hB dc_B_number_0 rfl rfl 0 rfl ?_
  refine y_iload_n (pc' := 2) hB dc_B_number_1 rfl rfl 1 rfl ?_
  refine y_xV (c := 0) (ci := 0) (As := [.int (a)]) (rest := []) hB (hE.fit (by decide) (by decide)) (hE.rm (by decide) (by decide)) (cx_rowAt o.l hs o.G (S) a h) mm_B_rowAt q_137 q_139 qs_0 (by decide) rfl rfl dc_B_number_2 rfl rfl (Nat.le_of_ble_eq_true rfl) (fun S' hpost => ?_)
  exact y_out hB hE (by rw [hpost]; exact yU.rf S)
set_option maxHeartbeats 4000000 in
set_option maxRecDepth 100000 in
theorem cx_B_copy_row (l : Launch) (hs : l.stackTraces = false) (g : YG) (S : YS) (a : Int32) (b : Int32) (h : ¬ zgr a) : yX l mn_B_copy mb_B_copy 5 none 9 g [.ref (g.ad (0)), .int (a), .int (b)] S yXI (fun S' => yU S S') := by
  refine yX_of hs (by decide) (Nat.le_of_ble_eq_true rfl) ?_
  intro o hl hg hB0 hE
  subst hl
  subst hg
  have hB : yB o mb_B_copy "OrderBench" := hB0
  have hm := hE.1
  show yW o (S) 0 [(0, .ref (o.G.ad (0))), (1, .int (a)), (2, .int (b))] []
  refine y_aload_n (pc' := 1) hB dc_B_copy_0 rfl rfl 0 rfl ?_
  refine y_iload_n (pc' := 2) hB dc_B_copy_1 rfl rfl 1 rfl ?_
  refine y_xV (c := 0) (ci := 0) (As := [.int (a)]) (rest := []) hB (hE.fit (by decide) (by decide)) (hE.rm (by decide) (by decide)) (cx_rowAt o.l hs o.G (S) a h) mm_B_rowAt q_137 q_139 qs_0 (by decide) rfl rfl dc_B_copy_2 rfl rfl (Nat.le_of_ble_eq_true rfl) (fun S' hpost => ?_)
  exact y_out hB hE (by rw [hpost]; exact yU.rf S)
set_option maxHeartbeats 4000000 in
set_option maxRecDepth 100000 in
theorem cx_B_size_row (l : Launch) (hs : l.stackTraces = false) (g : YG) (S : YS) (a : Int32) (h : ¬ zgr a) : yX l mn_B_size mb_B_size 2 (some .int) 9 g [.ref (g.ad (0)), .int (a)] S yXI (fun S' => yU S S') := by
  refine yX_of hs (by decide) (Nat.le_of_ble_eq_true rfl) ?_
  intro o hl hg hB0 hE
  subst hl
  subst hg
  have hB : yB o mb_B_size "OrderBench" := hB0
  have hm := hE.1
  show yW o (S) 0 [(0, .ref (o.G.ad (0))), (1, .int (a))] []
  refine y_aload_n (pc' := 1) hB dc_B_size_0 rfl rfl 0 rfl ?_
  refine y_iload_n (pc' := 2) hB dc_B_size_1 rfl rfl 1 rfl ?_
  refine y_xV (c := 0) (ci := 0) (As := [.int (a)]) (rest := []) hB (hE.fit (by decide) (by decide)) (hE.rm (by decide) (by decide)) (cx_rowAt o.l hs o.G (S) a h) mm_B_rowAt q_137 q_139 qs_0 (by decide) rfl rfl dc_B_size_2 rfl rfl (Nat.le_of_ble_eq_true rfl) (fun S' hpost => ?_)
  exact y_out hB hE (by rw [hpost]; exact yU.rf S)
set_option maxHeartbeats 4000000 in
set_option maxRecDepth 100000 in
theorem cx_B_key_row (l : Launch) (hs : l.stackTraces = false) (g : YG) (S : YS) (a : Int32) (b : Int32) (h : ¬ zgr a) : yX l mn_B_key mb_B_key 4 (some .long) 9 g [.ref (g.ad (0)), .int (a), .int (b)] S yXI (fun S' => yU S S') := by
  refine yX_of hs (by decide) (Nat.le_of_ble_eq_true rfl) ?_
  intro o hl hg hB0 hE
  subst hl
  subst hg
  have hB : yB o mb_B_key "OrderBench" := hB0
  have hm := hE.1
  show yW o (S) 0 [(0, .ref (o.G.ad (0))), (1, .int (a)), (2, .int (b))] []
  refine y_aload_n (pc' := 1) hB dc_B_key_0 rfl rfl 0 rfl ?_
  refine y_iload_n (pc' := 2) hB dc_B_key_1 rfl rfl 1 rfl ?_
  refine y_xV (c := 0) (ci := 0) (As := [.int (a)]) (rest := []) hB (hE.fit (by decide) (by decide)) (hE.rm (by decide) (by decide)) (cx_rowAt o.l hs o.G (S) a h) mm_B_rowAt q_137 q_139 qs_0 (by decide) rfl rfl dc_B_key_2 rfl rfl (Nat.le_of_ble_eq_true rfl) (fun S' hpost => ?_)
  exact y_out hB hE (by rw [hpost]; exact yU.rf S)
set_option maxHeartbeats 4000000 in
set_option maxRecDepth 100000 in
theorem cx_B_tag_row (l : Launch) (hs : l.stackTraces = false) (g : YG) (S : YS) (a : Int32) (b : Int32) (h : ¬ zgr a) : yX l mn_B_tag mb_B_tag 4 (some .int) 9 g [.ref (g.ad (0)), .int (a), .int (b)] S yXI (fun S' => yU S S') := by
  refine yX_of hs (by decide) (Nat.le_of_ble_eq_true rfl) ?_
  intro o hl hg hB0 hE
  subst hl
  subst hg
  have hB : yB o mb_B_tag "OrderBench" := hB0
  have hm := hE.1
  show yW o (S) 0 [(0, .ref (o.G.ad (0))), (1, .int (a)), (2, .int (b))] []
  refine y_aload_n (pc' := 1) hB dc_B_tag_0 rfl rfl 0 rfl ?_
  refine y_iload_n (pc' := 2) hB dc_B_tag_1 rfl rfl 1 rfl ?_
  refine y_xV (c := 0) (ci := 0) (As := [.int (a)]) (rest := []) hB (hE.fit (by decide) (by decide)) (hE.rm (by decide) (by decide)) (cx_rowAt o.l hs o.G (S) a h) mm_B_rowAt q_137 q_139 qs_0 (by decide) rfl rfl dc_B_tag_2 rfl rfl (Nat.le_of_ble_eq_true rfl) (fun S' hpost => ?_)
  exact y_out hB hE (by rw [hpost]; exact yU.rf S)
set_option maxHeartbeats 4000000 in
set_option maxRecDepth 100000 in
theorem cx_B_sort_row (l : Launch) (hs : l.stackTraces = false) (g : YG) (S : YS) (a : Int32) (b : Int32) (c : Int32) (h : ¬ zgr a) : yX l mn_B_sort mb_B_sort 5 none 9 g [.ref (g.ad (0)), .int (a), .int (b), .int (c)] S yXI (fun S' => yU S S') := by
  refine yX_of hs (by decide) (Nat.le_of_ble_eq_true rfl) ?_
  intro o hl hg hB0 hE
  subst hl
  subst hg
  have hB : yB o mb_B_sort "OrderBench" := hB0
  have hm := hE.1
  show yW o (S) 0 [(0, .ref (o.G.ad (0))), (1, .int (a)), (2, .int (b)), (3, .int (c))] []
  refine y_aload_n (pc' := 1) hB dc_B_sort_0 rfl rfl 0 rfl ?_
  refine y_iload_n (pc' := 2) hB dc_B_sort_1 rfl rfl 1 rfl ?_
  refine y_xV (c := 0) (ci := 0) (As := [.int (a)]) (rest := []) hB (hE.fit (by decide) (by decide)) (hE.rm (by decide) (by decide)) (cx_rowAt o.l hs o.G (S) a h) mm_B_rowAt q_137 q_139 qs_0 (by decide) rfl rfl dc_B_sort_2 rfl rfl (Nat.le_of_ble_eq_true rfl) (fun S' hpost => ?_)
  exact y_out hB hE (by rw [hpost]; exact yU.rf S)
set_option maxHeartbeats 4000000 in
set_option maxRecDepth 100000 in
theorem cx_B_sorted_row (l : Launch) (hs : l.stackTraces = false) (g : YG) (S : YS) (a : Int32) (b : Int32) (h : ¬ zgr a) : yX l mn_B_sorted mb_B_sorted 4 (some .boolean) 9 g [.ref (g.ad (0)), .int (a), .int (b)] S yXI (fun S' => yU S S') := by
  refine yX_of hs (by decide) (Nat.le_of_ble_eq_true rfl) ?_
  intro o hl hg hB0 hE
  subst hl
  subst hg
  have hB : yB o mb_B_sorted "OrderBench" := hB0
  have hm := hE.1
  show yW o (S) 0 [(0, .ref (o.G.ad (0))), (1, .int (a)), (2, .int (b))] []
  refine y_aload_n (pc' := 1) hB dc_B_sorted_0 rfl rfl 0 rfl ?_
  refine y_iload_n (pc' := 2) hB dc_B_sorted_1 rfl rfl 1 rfl ?_
  refine y_xV (c := 0) (ci := 0) (As := [.int (a)]) (rest := []) hB (hE.fit (by decide) (by decide)) (hE.rm (by decide) (by decide)) (cx_rowAt o.l hs o.G (S) a h) mm_B_rowAt q_137 q_139 qs_0 (by decide) rfl rfl dc_B_sorted_2 rfl rfl (Nat.le_of_ble_eq_true rfl) (fun S' hpost => ?_)
  exact y_out hB hE (by rw [hpost]; exact yU.rf S)
set_option maxHeartbeats 4000000 in
set_option maxRecDepth 100000 in
theorem cx_B_runs_row (l : Launch) (hs : l.stackTraces = false) (g : YG) (S : YS) (a : Int32) (b : Int32) (h : ¬ zgr a) : yX l mn_B_runs mb_B_runs 6 (some .int) 9 g [.ref (g.ad (0)), .int (a), .int (b)] S yXI (fun S' => yU S S') := by
  refine yX_of hs (by decide) (Nat.le_of_ble_eq_true rfl) ?_
  intro o hl hg hB0 hE
  subst hl
  subst hg
  have hB : yB o mb_B_runs "OrderBench" := hB0
  have hm := hE.1
  show yW o (S) 0 [(0, .ref (o.G.ad (0))), (1, .int (a)), (2, .int (b))] []
  refine y_aload_n (pc' := 1) hB dc_B_runs_0 rfl rfl 0 rfl ?_
  refine y_iload_n (pc' := 2) hB dc_B_runs_1 rfl rfl 1 rfl ?_
  refine y_xV (c := 0) (ci := 0) (As := [.int (a)]) (rest := []) hB (hE.fit (by decide) (by decide)) (hE.rm (by decide) (by decide)) (cx_rowAt o.l hs o.G (S) a h) mm_B_rowAt q_137 q_139 qs_0 (by decide) rfl rfl dc_B_runs_2 rfl rfl (Nat.le_of_ble_eq_true rfl) (fun S' hpost => ?_)
  exact y_out hB hE (by rw [hpost]; exact yU.rf S)
set_option maxHeartbeats 4000000 in
set_option maxRecDepth 100000 in
theorem cx_B_inversions_row (l : Launch) (hs : l.stackTraces = false) (g : YG) (S : YS) (a : Int32) (b : Int32) (h : ¬ zgr a) : yX l mn_B_inversions mb_B_inversions 4 (some .int) 9 g [.ref (g.ad (0)), .int (a), .int (b)] S yXI (fun S' => yU S S') := by
  refine yX_of hs (by decide) (Nat.le_of_ble_eq_true rfl) ?_
  intro o hl hg hB0 hE
  subst hl
  subst hg
  have hB : yB o mb_B_inversions "OrderBench" := hB0
  have hm := hE.1
  show yW o (S) 0 [(0, .ref (o.G.ad (0))), (1, .int (a)), (2, .int (b))] []
  refine y_aload_n (pc' := 1) hB dc_B_inversions_0 rfl rfl 0 rfl ?_
  refine y_iload_n (pc' := 2) hB dc_B_inversions_1 rfl rfl 1 rfl ?_
  refine y_xV (c := 0) (ci := 0) (As := [.int (a)]) (rest := []) hB (hE.fit (by decide) (by decide)) (hE.rm (by decide) (by decide)) (cx_rowAt o.l hs o.G (S) a h) mm_B_rowAt q_137 q_139 qs_0 (by decide) rfl rfl dc_B_inversions_2 rfl rfl (Nat.le_of_ble_eq_true rfl) (fun S' hpost => ?_)
  exact y_out hB hE (by rw [hpost]; exact yU.rf S)
set_option maxHeartbeats 4000000 in
set_option maxRecDepth 100000 in
theorem cx_B_ranked_row (l : Launch) (hs : l.stackTraces = false) (g : YG) (S : YS) (a : Int32) (b : Int32) (c : Int32) (h : ¬ zgr a) : yX l mn_B_ranked mb_B_ranked 5 (some .int) 9 g [.ref (g.ad (0)), .int (a), .int (b), .int (c)] S yXI (fun S' => yU S S') := by
  refine yX_of hs (by decide) (Nat.le_of_ble_eq_true rfl) ?_
  intro o hl hg hB0 hE
  subst hl
  subst hg
  have hB : yB o mb_B_ranked "OrderBench" := hB0
  have hm := hE.1
  show yW o (S) 0 [(0, .ref (o.G.ad (0))), (1, .int (a)), (2, .int (b)), (3, .int (c))] []
  refine y_aload_n (pc' := 1) hB dc_B_ranked_0 rfl rfl 0 rfl ?_
  refine y_iload_n (pc' := 2) hB dc_B_ranked_1 rfl rfl 1 rfl ?_
  refine y_xV (c := 0) (ci := 0) (As := [.int (a)]) (rest := []) hB (hE.fit (by decide) (by decide)) (hE.rm (by decide) (by decide)) (cx_rowAt o.l hs o.G (S) a h) mm_B_rowAt q_137 q_139 qs_0 (by decide) rfl rfl dc_B_ranked_2 rfl rfl (Nat.le_of_ble_eq_true rfl) (fun S' hpost => ?_)
  exact y_out hB hE (by rw [hpost]; exact yU.rf S)
set_option maxHeartbeats 4000000 in
set_option maxRecDepth 100000 in
theorem cx_B_climb_row (l : Launch) (hs : l.stackTraces = false) (g : YG) (S : YS) (a : Int32) (b : Int32) (h : ¬ zgr a) : yX l mn_B_climb mb_B_climb 7 (some .int) 9 g [.ref (g.ad (0)), .int (a), .int (b)] S yXI (fun S' => yU S S') := by
  refine yX_of hs (by decide) (Nat.le_of_ble_eq_true rfl) ?_
  intro o hl hg hB0 hE
  subst hl
  subst hg
  have hB : yB o mb_B_climb "OrderBench" := hB0
  have hm := hE.1
  show yW o (S) 0 [(0, .ref (o.G.ad (0))), (1, .int (a)), (2, .int (b))] []
  refine y_aload_n (pc' := 1) hB dc_B_climb_0 rfl rfl 0 rfl ?_
  refine y_iload_n (pc' := 2) hB dc_B_climb_1 rfl rfl 1 rfl ?_
  refine y_xV (c := 0) (ci := 0) (As := [.int (a)]) (rest := []) hB (hE.fit (by decide) (by decide)) (hE.rm (by decide) (by decide)) (cx_rowAt o.l hs o.G (S) a h) mm_B_rowAt q_137 q_139 qs_0 (by decide) rfl rfl dc_B_climb_2 rfl rfl (Nat.le_of_ble_eq_true rfl) (fun S' hpost => ?_)
  exact y_out hB hE (by rw [hpost]; exact yU.rf S)
set_option maxHeartbeats 4000000 in
set_option maxRecDepth 100000 in
theorem cx_B_find_row (l : Launch) (hs : l.stackTraces = false) (g : YG) (S : YS) (a : Int32) (b : Int32) (c : Int64) (d : Int32) (h : ¬ zgr a) : yX l mn_B_find mb_B_find 7 (some .int) 9 g [.ref (g.ad (0)), .int (a), .int (b), .long (c), .int (d)] S yXI (fun S' => yU S S') := by
  refine yX_of hs (by decide) (Nat.le_of_ble_eq_true rfl) ?_
  intro o hl hg hB0 hE
  subst hl
  subst hg
  have hB : yB o mb_B_find "OrderBench" := hB0
  have hm := hE.1
  show yW o (S) 0 [(0, .ref (o.G.ad (0))), (1, .int (a)), (2, .int (b)), (3, .long (c)), (5, .int (d))] []
  refine y_aload_n (pc' := 1) hB dc_B_find_0 rfl rfl 0 rfl ?_
  refine y_iload_n (pc' := 2) hB dc_B_find_1 rfl rfl 1 rfl ?_
  refine y_xV (c := 0) (ci := 0) (As := [.int (a)]) (rest := []) hB (hE.fit (by decide) (by decide)) (hE.rm (by decide) (by decide)) (cx_rowAt o.l hs o.G (S) a h) mm_B_rowAt q_137 q_139 qs_0 (by decide) rfl rfl dc_B_find_2 rfl rfl (Nat.le_of_ble_eq_true rfl) (fun S' hpost => ?_)
  exact y_out hB hE (by rw [hpost]; exact yU.rf S)
set_option maxHeartbeats 4000000 in
set_option maxRecDepth 100000 in
theorem cx_B_merge_row (l : Launch) (hs : l.stackTraces = false) (g : YG) (S : YS) (a : Int32) (b : Int32) (c : Int32) (d : Int32) (h : ¬ zgr a) : yX l mn_B_merge mb_B_merge 10 (some .int) 9 g [.ref (g.ad (0)), .int (a), .int (b), .int (c), .int (d)] S yXI (fun S' => yU S S') := by
  refine yX_of hs (by decide) (Nat.le_of_ble_eq_true rfl) ?_
  intro o hl hg hB0 hE
  subst hl
  subst hg
  have hB : yB o mb_B_merge "OrderBench" := hB0
  have hm := hE.1
  show yW o (S) 0 [(0, .ref (o.G.ad (0))), (1, .int (a)), (2, .int (b)), (3, .int (c)), (4, .int (d))] []
  refine y_aload_n (pc' := 1) hB dc_B_merge_0 rfl rfl 0 rfl ?_
  refine y_iload_n (pc' := 2) hB dc_B_merge_1 rfl rfl 1 rfl ?_
  refine y_xV (c := 0) (ci := 0) (As := [.int (a)]) (rest := []) hB (hE.fit (by decide) (by decide)) (hE.rm (by decide) (by decide)) (cx_rowAt o.l hs o.G (S) a h) mm_B_rowAt q_137 q_139 qs_0 (by decide) rfl rfl dc_B_merge_2 rfl rfl (Nat.le_of_ble_eq_true rfl) (fun S' hpost => ?_)
  exact y_out hB hE (by rw [hpost]; exact yU.rf S)
set_option maxHeartbeats 4000000 in
set_option maxRecDepth 100000 in
theorem cx_B_single_row (l : Launch) (hs : l.stackTraces = false) (g : YG) (S : YS) (a : Int32) (b : Int32) (h : ¬ zgr a) : yX l mn_B_single mb_B_single 6 (some .int) 9 g [.ref (g.ad (0)), .int (a), .int (b)] S yXI (fun S' => yU S S') := by
  refine yX_of hs (by decide) (Nat.le_of_ble_eq_true rfl) ?_
  intro o hl hg hB0 hE
  subst hl
  subst hg
  have hB : yB o mb_B_single "OrderBench" := hB0
  have hm := hE.1
  show yW o (S) 0 [(0, .ref (o.G.ad (0))), (1, .int (a)), (2, .int (b))] []
  refine y_aload_n (pc' := 1) hB dc_B_single_0 rfl rfl 0 rfl ?_
  refine y_iload_n (pc' := 2) hB dc_B_single_1 rfl rfl 1 rfl ?_
  refine y_xV (c := 0) (ci := 0) (As := [.int (a)]) (rest := []) hB (hE.fit (by decide) (by decide)) (hE.rm (by decide) (by decide)) (cx_rowAt o.l hs o.G (S) a h) mm_B_rowAt q_137 q_139 qs_0 (by decide) rfl rfl dc_B_single_2 rfl rfl (Nat.le_of_ble_eq_true rfl) (fun S' hpost => ?_)
  exact y_out hB hE (by rw [hpost]; exact yU.rf S)
set_option maxHeartbeats 4000000 in
set_option maxRecDepth 100000 in
theorem cx_B_front_row (l : Launch) (hs : l.stackTraces = false) (g : YG) (S : YS) (a : Int32) (b : Int32) (c : Int32) (h : ¬ zgr a) : yX l mn_B_front mb_B_front 5 none 9 g [.ref (g.ad (0)), .int (a), .int (b), .int (c)] S yXI (fun S' => yU S S') := by
  refine yX_of hs (by decide) (Nat.le_of_ble_eq_true rfl) ?_
  intro o hl hg hB0 hE
  subst hl
  subst hg
  have hB : yB o mb_B_front "OrderBench" := hB0
  have hm := hE.1
  show yW o (S) 0 [(0, .ref (o.G.ad (0))), (1, .int (a)), (2, .int (b)), (3, .int (c))] []
  refine y_aload_n (pc' := 1) hB dc_B_front_0 rfl rfl 0 rfl ?_
  refine y_iload_n (pc' := 2) hB dc_B_front_1 rfl rfl 1 rfl ?_
  refine y_xV (c := 0) (ci := 0) (As := [.int (a)]) (rest := []) hB (hE.fit (by decide) (by decide)) (hE.rm (by decide) (by decide)) (cx_rowAt o.l hs o.G (S) a h) mm_B_rowAt q_137 q_139 qs_0 (by decide) rfl rfl dc_B_front_2 rfl rfl (Nat.le_of_ble_eq_true rfl) (fun S' hpost => ?_)
  exact y_out hB hE (by rw [hpost]; exact yU.rf S)
set_option maxHeartbeats 4000000 in
set_option maxRecDepth 100000 in
theorem cx_B_mark_row (l : Launch) (hs : l.stackTraces = false) (g : YG) (S : YS) (a : Int32) (h : ¬ zgr a) : yX l mn_B_mark mb_B_mark 6 (some .long) 9 g [.ref (g.ad (0)), .int (a)] S yXI (fun S' => yU S S') := by
  refine yX_of hs (by decide) (Nat.le_of_ble_eq_true rfl) ?_
  intro o hl hg hB0 hE
  subst hl
  subst hg
  have hB : yB o mb_B_mark "OrderBench" := hB0
  have hm := hE.1
  show yW o (S) 0 [(0, .ref (o.G.ad (0))), (1, .int (a))] []
  refine y_aload_n (pc' := 1) hB dc_B_mark_0 rfl rfl 0 rfl ?_
  refine y_iload_n (pc' := 2) hB dc_B_mark_1 rfl rfl 1 rfl ?_
  refine y_xV (c := 0) (ci := 0) (As := [.int (a)]) (rest := []) hB (hE.fit (by decide) (by decide)) (hE.rm (by decide) (by decide)) (cx_rowAt o.l hs o.G (S) a h) mm_B_rowAt q_137 q_139 qs_0 (by decide) rfl rfl dc_B_mark_2 rfl rfl (Nat.le_of_ble_eq_true rfl) (fun S' hpost => ?_)
  exact y_out hB hE (by rw [hpost]; exact yU.rf S)
set_option maxHeartbeats 4000000 in
set_option maxRecDepth 100000 in
theorem cx_B_add_full (l : Launch) (hs : l.stackTraces = false) (g : YG) (S : YS) (k n : Nat) (hk : k < 4) (hn : n ≤ 1024) (hc : gF S (2 + k) 2 = nI n) (b : Int64) (c : Int32) (h : ¬ n < 1024) : yX l mn_B_add mb_B_add 6 (some .int) 9 g [.ref (g.ad (0)), .int (nI (k)), .long (b), .int (c)] S yXS (fun S' => yU S S') := by
  refine yX_of hs (by decide) (Nat.le_of_ble_eq_true rfl) ?_
  intro o hl hg hB0 hE
  subst hl
  subst hg
  have hB : yB o mb_B_add "OrderBench" := hB0
  have hm := hE.1
  show yW o (S) 0 [(0, .ref (o.G.ad (0))), (1, .int (nI (k))), (2, .long (b)), (4, .int (c))] []
  refine y_aload_n (pc' := 1) hB dc_B_add_0 rfl rfl 0 rfl ?_
  refine y_iload_n (pc' := 2) hB dc_B_add_1 rfl rfl 1 rfl ?_
  refine y_gV (c := 0) (ci := 0) (As := [.int (nI (k))]) (rest := []) (pc' := 5) hB (hE.fit (by decide) (by decide)) (hE.rm (by decide) (by decide)) (ct_B_rowAt o.l o.G (S) k hk) mm_B_rowAt q_137 q_139 qs_0 (by decide) rfl rfl dc_B_add_2 rfl rfl rfl (Nat.le_of_ble_eq_true rfl) (fun v S' hpost => ?_)
  obtain ⟨rfl, hSS⟩ := hpost
  rw [hSS]
  clear hSS S'
  show yW o (S) 5 [(0, .ref (o.G.ad (0))), (1, .int (nI (k))), (2, .long (b)), (4, .int (c))] [.ref (o.G.ad (2 + k))]
  refine y_astore (pc' := 7) (lv' := [(5, .ref (o.G.ad (2 + k))), (0, .ref (o.G.ad (0))), (1, .int (nI (k))), (2, .long (b)), (4, .int (c))]) hB hm dc_B_add_5 rfl (by decide) rfl ?_
  refine y_aload (pc' := 9) hB dc_B_add_7 rfl 0 rfl ?_
  refine f_count (r := k) (pc' := 12) hB dc_B_add_9 rfl (by omega) q_53 ?_
  refine y_topi (y := nI (n)) hc ?_
  refine y_sipush (v := nI 1024) (pc' := 15) hB dc_B_add_12 rfl (by decide) ?_
  refine n_icmp_lt (pc' := 18) (tg := 28) hB dc_B_add_15 rfl rfl (by omega) (by omega) (fun b1 => ?_) (fun b1 => ?_)
  · exact absurd b1 h
  · exact y_throw (is := 59) (text := "the row is full") hB hE (by decide) xOk_S (by decide +kernel) dc_B_add_18 dc_B_add_21 dc_B_add_22 dc_B_add_24 dc_B_add_27 (yU.rf S)
set_option maxHeartbeats 4000000 in
set_option maxRecDepth 100000 in
theorem cx_B_fill_n (l : Launch) (hs : l.stackTraces = false) (g : YG) (S : YS) (k : Nat) (hk : k < 4) (b : Int32) (c : Int32) (d : Int64) (e : Int32) (h : ¬ zgB 1024 b) : yX l mn_B_fill mb_B_fill 9 none 9 g [.ref (g.ad (0)), .int (nI (k)), .int (b), .int (c), .long (d), .int (e)] S yXA (fun S' => yU S S') := by
  refine yX_of hs (by decide) (Nat.le_of_ble_eq_true rfl) ?_
  intro o hl hg hB0 hE
  subst hl
  subst hg
  have hB : yB o mb_B_fill "OrderBench" := hB0
  have hm := hE.1
  show yW o (S) 0 [(0, .ref (o.G.ad (0))), (1, .int (nI (k))), (2, .int (b)), (3, .int (c)), (4, .long (d)), (6, .int (e))] []
  refine y_aload_n (pc' := 1) hB dc_B_fill_0 rfl rfl 0 rfl ?_
  refine y_iload_n (pc' := 2) hB dc_B_fill_1 rfl rfl 1 rfl ?_
  refine y_gV (c := 0) (ci := 0) (As := [.int (nI (k))]) (rest := []) (pc' := 5) hB (hE.fit (by decide) (by decide)) (hE.rm (by decide) (by decide)) (ct_B_rowAt o.l o.G (S) k hk) mm_B_rowAt q_137 q_139 qs_0 (by decide) rfl rfl dc_B_fill_2 rfl rfl rfl (Nat.le_of_ble_eq_true rfl) (fun v S' hpost => ?_)
  obtain ⟨rfl, hSS⟩ := hpost
  rw [hSS]
  clear hSS S'
  show yW o (S) 5 [(0, .ref (o.G.ad (0))), (1, .int (nI (k))), (2, .int (b)), (3, .int (c)), (4, .long (d)), (6, .int (e))] [.ref (o.G.ad (2 + k))]
  refine y_astore (pc' := 7) (lv' := [(7, .ref (o.G.ad (2 + k))), (0, .ref (o.G.ad (0))), (1, .int (nI (k))), (2, .int (b)), (3, .int (c)), (4, .long (d)), (6, .int (e))]) hB hm dc_B_fill_5 rfl (by decide) rfl ?_
  refine y_iload_n (pc' := 8) hB dc_B_fill_7 rfl rfl 3 rfl ?_
  refine y_if_lt (x := b) (pc' := 11) (tg := 18) hB dc_B_fill_8 rfl rfl (fun b1 => ?_) (fun b1 => ?_)
  · exact y_throw (is := 70) (text := "a row has 0 to 1024 entries") hB hE (by decide) xOk_A (by decide +kernel) dc_B_fill_18 dc_B_fill_21 dc_B_fill_22 dc_B_fill_24 dc_B_fill_27 (yU.rf S)
  · refine y_iload_n (pc' := 12) hB dc_B_fill_11 rfl rfl 3 rfl ?_
    refine y_sipush (v := nI 1024) (pc' := 15) hB dc_B_fill_12 rfl (by decide) ?_
    refine y_icmp_le (x := b) (y := nI (1024)) (pc' := 18) (tg := 28) hB dc_B_fill_15 rfl rfl (fun b2 => ?_) (fun b2 => ?_)
    · exact absurd ⟨b1, b2⟩ h
    · exact y_throw (is := 70) (text := "a row has 0 to 1024 entries") hB hE (by decide) xOk_A (by decide +kernel) dc_B_fill_18 dc_B_fill_21 dc_B_fill_22 dc_B_fill_24 dc_B_fill_27 (yU.rf S)
set_option maxHeartbeats 4000000 in
set_option maxRecDepth 100000 in
theorem cx_B_fill_kind (l : Launch) (hs : l.stackTraces = false) (g : YG) (S : YS) (k m : Nat) (hk : k < 4) (hm2 : m ≤ 1024) (c : Int32) (d : Int64) (e : Int32) (h : ¬ zgB 5 c) : yX l mn_B_fill mb_B_fill 9 none 9 g [.ref (g.ad (0)), .int (nI (k)), .int (nI (m)), .int (c), .long (d), .int (e)] S yXA (fun S' => yU S S') := by
  refine yX_of hs (by decide) (Nat.le_of_ble_eq_true rfl) ?_
  intro o hl hg hB0 hE
  subst hl
  subst hg
  have hB : yB o mb_B_fill "OrderBench" := hB0
  have hm := hE.1
  show yW o (S) 0 [(0, .ref (o.G.ad (0))), (1, .int (nI (k))), (2, .int (nI (m))), (3, .int (c)), (4, .long (d)), (6, .int (e))] []
  refine y_aload_n (pc' := 1) hB dc_B_fill_0 rfl rfl 0 rfl ?_
  refine y_iload_n (pc' := 2) hB dc_B_fill_1 rfl rfl 1 rfl ?_
  refine y_gV (c := 0) (ci := 0) (As := [.int (nI (k))]) (rest := []) (pc' := 5) hB (hE.fit (by decide) (by decide)) (hE.rm (by decide) (by decide)) (ct_B_rowAt o.l o.G (S) k hk) mm_B_rowAt q_137 q_139 qs_0 (by decide) rfl rfl dc_B_fill_2 rfl rfl rfl (Nat.le_of_ble_eq_true rfl) (fun v S' hpost => ?_)
  obtain ⟨rfl, hSS⟩ := hpost
  rw [hSS]
  clear hSS S'
  show yW o (S) 5 [(0, .ref (o.G.ad (0))), (1, .int (nI (k))), (2, .int (nI (m))), (3, .int (c)), (4, .long (d)), (6, .int (e))] [.ref (o.G.ad (2 + k))]
  refine y_astore (pc' := 7) (lv' := [(7, .ref (o.G.ad (2 + k))), (0, .ref (o.G.ad (0))), (1, .int (nI (k))), (2, .int (nI (m))), (3, .int (c)), (4, .long (d)), (6, .int (e))]) hB hm dc_B_fill_5 rfl (by decide) rfl ?_
  refine y_iload_n (pc' := 8) hB dc_B_fill_7 rfl rfl 3 rfl ?_
  refine n_if_lt (pc' := 11) (tg := 18) hB dc_B_fill_8 rfl rfl (by omega) ?_
  refine y_iload_n (pc' := 12) hB dc_B_fill_11 rfl rfl 3 rfl ?_
  refine y_sipush (v := nI 1024) (pc' := 15) hB dc_B_fill_12 rfl (by decide) ?_
  refine n_icmp_le (pc' := 18) (tg := 28) hB dc_B_fill_15 rfl rfl (by omega) (by omega) (fun b1 => ?_) (fun b1 => ?_)
  · refine y_iload_n (pc' := 29) hB dc_B_fill_28 rfl rfl 4 rfl ?_
    refine y_if_lt (x := c) (pc' := 32) (tg := 37) hB dc_B_fill_29 rfl rfl (fun b2 => ?_) (fun b2 => ?_)
    · exact y_throw (is := 73) (text := "there is no such kind") hB hE (by decide) xOk_A (by decide +kernel) dc_B_fill_37 dc_B_fill_40 dc_B_fill_41 dc_B_fill_43 dc_B_fill_46 (yU.rf S)
    · refine y_iload_n (pc' := 33) hB dc_B_fill_32 rfl rfl 4 rfl ?_
      refine y_iconst (v := nI 5) (pc' := 34) hB dc_B_fill_33 rfl rfl ?_
      refine y_icmp_le (x := c) (y := nI (5)) (pc' := 37) (tg := 47) hB dc_B_fill_34 rfl rfl (fun b3 => ?_) (fun b3 => ?_)
      · exact absurd ⟨b2, b3⟩ h
      · exact y_throw (is := 73) (text := "there is no such kind") hB hE (by decide) xOk_A (by decide +kernel) dc_B_fill_37 dc_B_fill_40 dc_B_fill_41 dc_B_fill_43 dc_B_fill_46 (yU.rf S)
  · omega
set_option maxHeartbeats 4000000 in
set_option maxRecDepth 100000 in
theorem cx_B_cut_n (l : Launch) (hs : l.stackTraces = false) (g : YG) (S : YS) (k n : Nat) (hk : k < 4) (hn : n ≤ 1024) (hc : gF S (2 + k) 2 = nI n) (b : Int32) (h : ¬ zgB n b) : yX l mn_B_cut mb_B_cut 4 none 9 g [.ref (g.ad (0)), .int (nI (k)), .int (b)] S yXA (fun S' => yU S S') := by
  refine yX_of hs (by decide) (Nat.le_of_ble_eq_true rfl) ?_
  intro o hl hg hB0 hE
  subst hl
  subst hg
  have hB : yB o mb_B_cut "OrderBench" := hB0
  have hm := hE.1
  show yW o (S) 0 [(0, .ref (o.G.ad (0))), (1, .int (nI (k))), (2, .int (b))] []
  refine y_aload_n (pc' := 1) hB dc_B_cut_0 rfl rfl 0 rfl ?_
  refine y_iload_n (pc' := 2) hB dc_B_cut_1 rfl rfl 1 rfl ?_
  refine y_gV (c := 0) (ci := 0) (As := [.int (nI (k))]) (rest := []) (pc' := 5) hB (hE.fit (by decide) (by decide)) (hE.rm (by decide) (by decide)) (ct_B_rowAt o.l o.G (S) k hk) mm_B_rowAt q_137 q_139 qs_0 (by decide) rfl rfl dc_B_cut_2 rfl rfl rfl (Nat.le_of_ble_eq_true rfl) (fun v S' hpost => ?_)
  obtain ⟨rfl, hSS⟩ := hpost
  rw [hSS]
  clear hSS S'
  show yW o (S) 5 [(0, .ref (o.G.ad (0))), (1, .int (nI (k))), (2, .int (b))] [.ref (o.G.ad (2 + k))]
  refine y_astore_n (pc' := 6) (lv' := [(3, .ref (o.G.ad (2 + k))), (0, .ref (o.G.ad (0))), (1, .int (nI (k))), (2, .int (b))]) hB hm dc_B_cut_5 rfl rfl (by decide) rfl ?_
  refine y_iload_n (pc' := 7) hB dc_B_cut_6 rfl rfl 3 rfl ?_
  refine y_if_lt (x := b) (pc' := 10) (tg := 18) hB dc_B_cut_7 rfl rfl (fun b1 => ?_) (fun b1 => ?_)
  · exact y_throw (is := 90) (text := "the row has not as many entries") hB hE (by decide) xOk_A (by decide +kernel) dc_B_cut_18 dc_B_cut_21 dc_B_cut_22 dc_B_cut_24 dc_B_cut_27 (yU.rf S)
  · refine y_iload_n (pc' := 11) hB dc_B_cut_10 rfl rfl 3 rfl ?_
    refine y_aload_n (pc' := 12) hB dc_B_cut_11 rfl rfl 0 rfl ?_
    refine f_count (r := k) (pc' := 15) hB dc_B_cut_12 rfl (by omega) q_53 ?_
    refine y_topi (y := nI n) hc ?_
    refine y_icmp_le (x := b) (y := nI n) (pc' := 18) (tg := 28) hB dc_B_cut_15 rfl rfl (fun b2 => ?_) (fun b2 => ?_)
    · exact absurd ⟨b1, b2⟩ h
    · exact y_throw (is := 90) (text := "the row has not as many entries") hB hE (by decide) xOk_A (by decide +kernel) dc_B_cut_18 dc_B_cut_21 dc_B_cut_22 dc_B_cut_24 dc_B_cut_27 (yU.rf S)
set_option maxHeartbeats 4000000 in
set_option maxRecDepth 100000 in
theorem cx_B_swap_i (l : Launch) (hs : l.stackTraces = false) (g : YG) (S : YS) (k n : Nat) (hk : k < 4) (hn : n ≤ 1024) (hc : gF S (2 + k) 2 = nI n) (b : Int32) (c : Int32) (h : ¬ zgE n b) : yX l mn_B_swap mb_B_swap 5 none 9 g [.ref (g.ad (0)), .int (nI (k)), .int (b), .int (c)] S yXI (fun S' => yU S S') := by
  refine yX_of hs (by decide) (Nat.le_of_ble_eq_true rfl) ?_
  intro o hl hg hB0 hE
  subst hl
  subst hg
  have hB : yB o mb_B_swap "OrderBench" := hB0
  have hm := hE.1
  show yW o (S) 0 [(0, .ref (o.G.ad (0))), (1, .int (nI (k))), (2, .int (b)), (3, .int (c))] []
  refine y_aload_n (pc' := 1) hB dc_B_swap_0 rfl rfl 0 rfl ?_
  refine y_iload_n (pc' := 2) hB dc_B_swap_1 rfl rfl 1 rfl ?_
  refine y_gV (c := 0) (ci := 0) (As := [.int (nI (k))]) (rest := []) (pc' := 5) hB (hE.fit (by decide) (by decide)) (hE.rm (by decide) (by decide)) (ct_B_rowAt o.l o.G (S) k hk) mm_B_rowAt q_137 q_139 qs_0 (by decide) rfl rfl dc_B_swap_2 rfl rfl rfl (Nat.le_of_ble_eq_true rfl) (fun v S' hpost => ?_)
  obtain ⟨rfl, hSS⟩ := hpost
  rw [hSS]
  clear hSS S'
  show yW o (S) 5 [(0, .ref (o.G.ad (0))), (1, .int (nI (k))), (2, .int (b)), (3, .int (c))] [.ref (o.G.ad (2 + k))]
  refine y_astore (pc' := 7) (lv' := [(4, .ref (o.G.ad (2 + k))), (0, .ref (o.G.ad (0))), (1, .int (nI (k))), (2, .int (b)), (3, .int (c))]) hB hm dc_B_swap_5 rfl (by decide) rfl ?_
  refine y_aload (pc' := 9) hB dc_B_swap_7 rfl 0 rfl ?_
  refine y_iload_n (pc' := 10) hB dc_B_swap_9 rfl rfl 3 rfl ?_
  refine y_xS (As := [.ref (o.G.ad (2 + k)), .int (b)]) (rest := []) hB (hE.fit (by decide) (by decide)) (hE.rm (by decide) (by decide)) (cx_checkEntry o.l hs o.G (S) k (by omega) n hc b h) mm_B_checkEntry q_283 q_284 dc_B_swap_10 rfl rfl (Nat.le_of_ble_eq_true rfl) (fun S' hpost => ?_)
  exact y_out hB hE (by rw [hpost]; exact yU.rf S)
set_option maxHeartbeats 4000000 in
set_option maxRecDepth 100000 in
theorem cx_B_swap_j (l : Launch) (hs : l.stackTraces = false) (g : YG) (S : YS) (k n : Nat) (hk : k < 4) (hn : n ≤ 1024) (hc : gF S (2 + k) 2 = nI n) (i : Nat) (hi : i < n) (c : Int32) (h : ¬ zgE n c) : yX l mn_B_swap mb_B_swap 5 none 9 g [.ref (g.ad (0)), .int (nI (k)), .int (nI (i)), .int (c)] S yXI (fun S' => yU S S') := by
  refine yX_of hs (by decide) (Nat.le_of_ble_eq_true rfl) ?_
  intro o hl hg hB0 hE
  subst hl
  subst hg
  have hB : yB o mb_B_swap "OrderBench" := hB0
  have hm := hE.1
  show yW o (S) 0 [(0, .ref (o.G.ad (0))), (1, .int (nI (k))), (2, .int (nI (i))), (3, .int (c))] []
  refine y_aload_n (pc' := 1) hB dc_B_swap_0 rfl rfl 0 rfl ?_
  refine y_iload_n (pc' := 2) hB dc_B_swap_1 rfl rfl 1 rfl ?_
  refine y_gV (c := 0) (ci := 0) (As := [.int (nI (k))]) (rest := []) (pc' := 5) hB (hE.fit (by decide) (by decide)) (hE.rm (by decide) (by decide)) (ct_B_rowAt o.l o.G (S) k hk) mm_B_rowAt q_137 q_139 qs_0 (by decide) rfl rfl dc_B_swap_2 rfl rfl rfl (Nat.le_of_ble_eq_true rfl) (fun v S' hpost => ?_)
  obtain ⟨rfl, hSS⟩ := hpost
  rw [hSS]
  clear hSS S'
  show yW o (S) 5 [(0, .ref (o.G.ad (0))), (1, .int (nI (k))), (2, .int (nI (i))), (3, .int (c))] [.ref (o.G.ad (2 + k))]
  refine y_astore (pc' := 7) (lv' := [(4, .ref (o.G.ad (2 + k))), (0, .ref (o.G.ad (0))), (1, .int (nI (k))), (2, .int (nI (i))), (3, .int (c))]) hB hm dc_B_swap_5 rfl (by decide) rfl ?_
  refine y_aload (pc' := 9) hB dc_B_swap_7 rfl 0 rfl ?_
  refine y_iload_n (pc' := 10) hB dc_B_swap_9 rfl rfl 3 rfl ?_
  refine y_gS (As := [.ref (o.G.ad (2 + k)), .int (nI (i))]) (rest := []) (pc' := 13) hB (hE.fit (by decide) (by decide)) (hE.rm (by decide) (by decide)) (ct_B_checkEntry o.l o.G (S) k (by omega) n hn hc i hi) mm_B_checkEntry q_283 q_284 dc_B_swap_10 rfl rfl rfl (Nat.le_of_ble_eq_true rfl) (fun v S' hpost => ?_)
  obtain ⟨rfl, hSS⟩ := hpost
  rw [hSS]
  clear hSS S'
  show yW o (S) 13 [(4, .ref (o.G.ad (2 + k))), (0, .ref (o.G.ad (0))), (1, .int (nI (k))), (2, .int (nI (i))), (3, .int (c))] []
  refine y_aload (pc' := 15) hB dc_B_swap_13 rfl 0 rfl ?_
  refine y_iload_n (pc' := 16) hB dc_B_swap_15 rfl rfl 4 rfl ?_
  refine y_xS (As := [.ref (o.G.ad (2 + k)), .int (c)]) (rest := []) hB (hE.fit (by decide) (by decide)) (hE.rm (by decide) (by decide)) (cx_checkEntry o.l hs o.G (S) k (by omega) n hc c h) mm_B_checkEntry q_283 q_284 dc_B_swap_16 rfl rfl (Nat.le_of_ble_eq_true rfl) (fun S' hpost => ?_)
  exact y_out hB hE (by rw [hpost]; exact yU.rf S)
set_option maxHeartbeats 4000000 in
set_option maxRecDepth 100000 in
theorem cx_B_copy_to (l : Launch) (hs : l.stackTraces = false) (g : YG) (S : YS) (k : Nat) (hk : k < 4) (b : Int32) (h : ¬ zgr b) : yX l mn_B_copy mb_B_copy 5 none 9 g [.ref (g.ad (0)), .int (nI (k)), .int (b)] S yXI (fun S' => yU S S') := by
  refine yX_of hs (by decide) (Nat.le_of_ble_eq_true rfl) ?_
  intro o hl hg hB0 hE
  subst hl
  subst hg
  have hB : yB o mb_B_copy "OrderBench" := hB0
  have hm := hE.1
  show yW o (S) 0 [(0, .ref (o.G.ad (0))), (1, .int (nI (k))), (2, .int (b))] []
  refine y_aload_n (pc' := 1) hB dc_B_copy_0 rfl rfl 0 rfl ?_
  refine y_iload_n (pc' := 2) hB dc_B_copy_1 rfl rfl 1 rfl ?_
  refine y_gV (c := 0) (ci := 0) (As := [.int (nI (k))]) (rest := []) (pc' := 5) hB (hE.fit (by decide) (by decide)) (hE.rm (by decide) (by decide)) (ct_B_rowAt o.l o.G (S) k hk) mm_B_rowAt q_137 q_139 qs_0 (by decide) rfl rfl dc_B_copy_2 rfl rfl rfl (Nat.le_of_ble_eq_true rfl) (fun v S' hpost => ?_)
  obtain ⟨rfl, hSS⟩ := hpost
  rw [hSS]
  clear hSS S'
  show yW o (S) 5 [(0, .ref (o.G.ad (0))), (1, .int (nI (k))), (2, .int (b))] [.ref (o.G.ad (2 + k))]
  refine y_astore_n (pc' := 6) (lv' := [(3, .ref (o.G.ad (2 + k))), (0, .ref (o.G.ad (0))), (1, .int (nI (k))), (2, .int (b))]) hB hm dc_B_copy_5 rfl rfl (by decide) rfl ?_
  refine y_aload_n (pc' := 7) hB dc_B_copy_6 rfl rfl 1 rfl ?_
  refine y_iload_n (pc' := 8) hB dc_B_copy_7 rfl rfl 3 rfl ?_
  refine y_xV (c := 0) (ci := 0) (As := [.int (b)]) (rest := []) hB (hE.fit (by decide) (by decide)) (hE.rm (by decide) (by decide)) (cx_rowAt o.l hs o.G (S) b h) mm_B_rowAt q_137 q_139 qs_0 (by decide) rfl rfl dc_B_copy_8 rfl rfl (Nat.le_of_ble_eq_true rfl) (fun S' hpost => ?_)
  exact y_out hB hE (by rw [hpost]; exact yU.rf S)
set_option maxHeartbeats 4000000 in
set_option maxRecDepth 100000 in
theorem cx_B_key_i (l : Launch) (hs : l.stackTraces = false) (g : YG) (S : YS) (k n : Nat) (hk : k < 4) (hn : n ≤ 1024) (hc : gF S (2 + k) 2 = nI n) (b : Int32) (h : ¬ zgE n b) : yX l mn_B_key mb_B_key 4 (some .long) 9 g [.ref (g.ad (0)), .int (nI (k)), .int (b)] S yXI (fun S' => yU S S') := by
  refine yX_of hs (by decide) (Nat.le_of_ble_eq_true rfl) ?_
  intro o hl hg hB0 hE
  subst hl
  subst hg
  have hB : yB o mb_B_key "OrderBench" := hB0
  have hm := hE.1
  show yW o (S) 0 [(0, .ref (o.G.ad (0))), (1, .int (nI (k))), (2, .int (b))] []
  refine y_aload_n (pc' := 1) hB dc_B_key_0 rfl rfl 0 rfl ?_
  refine y_iload_n (pc' := 2) hB dc_B_key_1 rfl rfl 1 rfl ?_
  refine y_gV (c := 0) (ci := 0) (As := [.int (nI (k))]) (rest := []) (pc' := 5) hB (hE.fit (by decide) (by decide)) (hE.rm (by decide) (by decide)) (ct_B_rowAt o.l o.G (S) k hk) mm_B_rowAt q_137 q_139 qs_0 (by decide) rfl rfl dc_B_key_2 rfl rfl rfl (Nat.le_of_ble_eq_true rfl) (fun v S' hpost => ?_)
  obtain ⟨rfl, hSS⟩ := hpost
  rw [hSS]
  clear hSS S'
  show yW o (S) 5 [(0, .ref (o.G.ad (0))), (1, .int (nI (k))), (2, .int (b))] [.ref (o.G.ad (2 + k))]
  refine y_astore_n (pc' := 6) (lv' := [(3, .ref (o.G.ad (2 + k))), (0, .ref (o.G.ad (0))), (1, .int (nI (k))), (2, .int (b))]) hB hm dc_B_key_5 rfl rfl (by decide) rfl ?_
  refine y_aload_n (pc' := 7) hB dc_B_key_6 rfl rfl 0 rfl ?_
  refine y_iload_n (pc' := 8) hB dc_B_key_7 rfl rfl 3 rfl ?_
  refine y_xS (As := [.ref (o.G.ad (2 + k)), .int (b)]) (rest := []) hB (hE.fit (by decide) (by decide)) (hE.rm (by decide) (by decide)) (cx_checkEntry o.l hs o.G (S) k (by omega) n hc b h) mm_B_checkEntry q_283 q_284 dc_B_key_8 rfl rfl (Nat.le_of_ble_eq_true rfl) (fun S' hpost => ?_)
  exact y_out hB hE (by rw [hpost]; exact yU.rf S)
set_option maxHeartbeats 4000000 in
set_option maxRecDepth 100000 in
theorem cx_B_tag_i (l : Launch) (hs : l.stackTraces = false) (g : YG) (S : YS) (k n : Nat) (hk : k < 4) (hn : n ≤ 1024) (hc : gF S (2 + k) 2 = nI n) (b : Int32) (h : ¬ zgE n b) : yX l mn_B_tag mb_B_tag 4 (some .int) 9 g [.ref (g.ad (0)), .int (nI (k)), .int (b)] S yXI (fun S' => yU S S') := by
  refine yX_of hs (by decide) (Nat.le_of_ble_eq_true rfl) ?_
  intro o hl hg hB0 hE
  subst hl
  subst hg
  have hB : yB o mb_B_tag "OrderBench" := hB0
  have hm := hE.1
  show yW o (S) 0 [(0, .ref (o.G.ad (0))), (1, .int (nI (k))), (2, .int (b))] []
  refine y_aload_n (pc' := 1) hB dc_B_tag_0 rfl rfl 0 rfl ?_
  refine y_iload_n (pc' := 2) hB dc_B_tag_1 rfl rfl 1 rfl ?_
  refine y_gV (c := 0) (ci := 0) (As := [.int (nI (k))]) (rest := []) (pc' := 5) hB (hE.fit (by decide) (by decide)) (hE.rm (by decide) (by decide)) (ct_B_rowAt o.l o.G (S) k hk) mm_B_rowAt q_137 q_139 qs_0 (by decide) rfl rfl dc_B_tag_2 rfl rfl rfl (Nat.le_of_ble_eq_true rfl) (fun v S' hpost => ?_)
  obtain ⟨rfl, hSS⟩ := hpost
  rw [hSS]
  clear hSS S'
  show yW o (S) 5 [(0, .ref (o.G.ad (0))), (1, .int (nI (k))), (2, .int (b))] [.ref (o.G.ad (2 + k))]
  refine y_astore_n (pc' := 6) (lv' := [(3, .ref (o.G.ad (2 + k))), (0, .ref (o.G.ad (0))), (1, .int (nI (k))), (2, .int (b))]) hB hm dc_B_tag_5 rfl rfl (by decide) rfl ?_
  refine y_aload_n (pc' := 7) hB dc_B_tag_6 rfl rfl 0 rfl ?_
  refine y_iload_n (pc' := 8) hB dc_B_tag_7 rfl rfl 3 rfl ?_
  refine y_xS (As := [.ref (o.G.ad (2 + k)), .int (b)]) (rest := []) hB (hE.fit (by decide) (by decide)) (hE.rm (by decide) (by decide)) (cx_checkEntry o.l hs o.G (S) k (by omega) n hc b h) mm_B_checkEntry q_283 q_284 dc_B_tag_8 rfl rfl (Nat.le_of_ble_eq_true rfl) (fun S' hpost => ?_)
  exact y_out hB hE (by rw [hpost]; exact yU.rf S)
set_option maxHeartbeats 4000000 in
set_option maxRecDepth 100000 in
theorem cx_B_sort_order (l : Launch) (hs : l.stackTraces = false) (g : YG) (S : YS) (k : Nat) (hk : k < 4) (b : Int32) (c : Int32) (h : ¬ zgo c) : yX l mn_B_sort mb_B_sort 5 none 9 g [.ref (g.ad (0)), .int (nI (k)), .int (b), .int (c)] S yXA (fun S' => yU S S') := by
  refine yX_of hs (by decide) (Nat.le_of_ble_eq_true rfl) ?_
  intro o hl hg hB0 hE
  subst hl
  subst hg
  have hB : yB o mb_B_sort "OrderBench" := hB0
  have hm := hE.1
  show yW o (S) 0 [(0, .ref (o.G.ad (0))), (1, .int (nI (k))), (2, .int (b)), (3, .int (c))] []
  refine y_aload_n (pc' := 1) hB dc_B_sort_0 rfl rfl 0 rfl ?_
  refine y_iload_n (pc' := 2) hB dc_B_sort_1 rfl rfl 1 rfl ?_
  refine y_gV (c := 0) (ci := 0) (As := [.int (nI (k))]) (rest := []) (pc' := 5) hB (hE.fit (by decide) (by decide)) (hE.rm (by decide) (by decide)) (ct_B_rowAt o.l o.G (S) k hk) mm_B_rowAt q_137 q_139 qs_0 (by decide) rfl rfl dc_B_sort_2 rfl rfl rfl (Nat.le_of_ble_eq_true rfl) (fun v S' hpost => ?_)
  obtain ⟨rfl, hSS⟩ := hpost
  rw [hSS]
  clear hSS S'
  show yW o (S) 5 [(0, .ref (o.G.ad (0))), (1, .int (nI (k))), (2, .int (b)), (3, .int (c))] [.ref (o.G.ad (2 + k))]
  refine y_astore (pc' := 7) (lv' := [(4, .ref (o.G.ad (2 + k))), (0, .ref (o.G.ad (0))), (1, .int (nI (k))), (2, .int (b)), (3, .int (c))]) hB hm dc_B_sort_5 rfl (by decide) rfl ?_
  refine y_iload_n (pc' := 8) hB dc_B_sort_7 rfl rfl 4 rfl ?_
  refine y_xS (As := [.int (c)]) (rest := []) hB (hE.fit (by decide) (by decide)) (hE.rm (by decide) (by decide)) (cx_checkOrder o.l hs o.G S c h) mm_B_checkOrder q_349 q_350 dc_B_sort_8 rfl rfl (Nat.le_of_ble_eq_true rfl) (fun S' hpost => ?_)
  exact y_out hB hE (by rw [hpost]; exact yU.rf S)
set_option maxHeartbeats 4000000 in
set_option maxRecDepth 100000 in
theorem cx_B_sort_way (l : Launch) (hs : l.stackTraces = false) (g : YG) (S : YS) (k od : Nat) (hk : k < 4) (ho : od < 8) (b : Int32) (h : ¬ zgB 6 b) : yX l mn_B_sort mb_B_sort 5 none 9 g [.ref (g.ad (0)), .int (nI (k)), .int (b), .int (nI (od))] S yXA (fun S' => yU S S') := by
  refine yX_of hs (by decide) (Nat.le_of_ble_eq_true rfl) ?_
  intro o hl hg hB0 hE
  subst hl
  subst hg
  have hB : yB o mb_B_sort "OrderBench" := hB0
  have hm := hE.1
  show yW o (S) 0 [(0, .ref (o.G.ad (0))), (1, .int (nI (k))), (2, .int (b)), (3, .int (nI (od)))] []
  refine y_aload_n (pc' := 1) hB dc_B_sort_0 rfl rfl 0 rfl ?_
  refine y_iload_n (pc' := 2) hB dc_B_sort_1 rfl rfl 1 rfl ?_
  refine y_gV (c := 0) (ci := 0) (As := [.int (nI (k))]) (rest := []) (pc' := 5) hB (hE.fit (by decide) (by decide)) (hE.rm (by decide) (by decide)) (ct_B_rowAt o.l o.G (S) k hk) mm_B_rowAt q_137 q_139 qs_0 (by decide) rfl rfl dc_B_sort_2 rfl rfl rfl (Nat.le_of_ble_eq_true rfl) (fun v S' hpost => ?_)
  obtain ⟨rfl, hSS⟩ := hpost
  rw [hSS]
  clear hSS S'
  show yW o (S) 5 [(0, .ref (o.G.ad (0))), (1, .int (nI (k))), (2, .int (b)), (3, .int (nI (od)))] [.ref (o.G.ad (2 + k))]
  refine y_astore (pc' := 7) (lv' := [(4, .ref (o.G.ad (2 + k))), (0, .ref (o.G.ad (0))), (1, .int (nI (k))), (2, .int (b)), (3, .int (nI (od)))]) hB hm dc_B_sort_5 rfl (by decide) rfl ?_
  refine y_iload_n (pc' := 8) hB dc_B_sort_7 rfl rfl 4 rfl ?_
  refine y_gS (As := [.int (nI (od))]) (rest := []) (pc' := 11) hB (hE.fit (by decide) (by decide)) (hE.rm (by decide) (by decide)) (ct_B_checkOrder o.l o.G S od ho) mm_B_checkOrder q_349 q_350 dc_B_sort_8 rfl rfl rfl (Nat.le_of_ble_eq_true rfl) (fun v S' hpost => ?_)
  obtain ⟨rfl, hSS⟩ := hpost
  rw [hSS]
  clear hSS S'
  show yW o (S) 11 [(4, .ref (o.G.ad (2 + k))), (0, .ref (o.G.ad (0))), (1, .int (nI (k))), (2, .int (b)), (3, .int (nI (od)))] []
  refine y_iload_n (pc' := 12) hB dc_B_sort_11 rfl rfl 3 rfl ?_
  refine y_iload_n (pc' := 13) hB dc_B_sort_12 rfl rfl 4 rfl ?_
  refine y_xS (As := [.int (b), .int (nI (od))]) (rest := []) hB (hE.fit (by decide) (by decide)) (hE.rm (by decide) (by decide)) (cx_checkWay o.l hs o.G S b (nI od) h) mm_B_checkWay q_353 q_354 dc_B_sort_13 rfl rfl (Nat.le_of_ble_eq_true rfl) (fun S' hpost => ?_)
  exact y_out hB hE (by rw [hpost]; exact yU.rf S)
set_option maxHeartbeats 4000000 in
set_option maxRecDepth 100000 in
theorem cx_B_sort_six (l : Launch) (hs : l.stackTraces = false) (g : YG) (S : YS) (k od : Nat) (hk : k < 4) (ho : od < 8) (h : ¬ (od = 0 ∨ od = 1 ∨ od = 2 ∨ od = 5)) : yX l mn_B_sort mb_B_sort 5 none 9 g [.ref (g.ad (0)), .int (nI (k)), .int (nI (6)), .int (nI (od))] S yXA (fun S' => yU S S') := by
  refine yX_of hs (by decide) (Nat.le_of_ble_eq_true rfl) ?_
  intro o hl hg hB0 hE
  subst hl
  subst hg
  have hB : yB o mb_B_sort "OrderBench" := hB0
  have hm := hE.1
  show yW o (S) 0 [(0, .ref (o.G.ad (0))), (1, .int (nI (k))), (2, .int (nI (6))), (3, .int (nI (od)))] []
  refine y_aload_n (pc' := 1) hB dc_B_sort_0 rfl rfl 0 rfl ?_
  refine y_iload_n (pc' := 2) hB dc_B_sort_1 rfl rfl 1 rfl ?_
  refine y_gV (c := 0) (ci := 0) (As := [.int (nI (k))]) (rest := []) (pc' := 5) hB (hE.fit (by decide) (by decide)) (hE.rm (by decide) (by decide)) (ct_B_rowAt o.l o.G (S) k hk) mm_B_rowAt q_137 q_139 qs_0 (by decide) rfl rfl dc_B_sort_2 rfl rfl rfl (Nat.le_of_ble_eq_true rfl) (fun v S' hpost => ?_)
  obtain ⟨rfl, hSS⟩ := hpost
  rw [hSS]
  clear hSS S'
  show yW o (S) 5 [(0, .ref (o.G.ad (0))), (1, .int (nI (k))), (2, .int (nI (6))), (3, .int (nI (od)))] [.ref (o.G.ad (2 + k))]
  refine y_astore (pc' := 7) (lv' := [(4, .ref (o.G.ad (2 + k))), (0, .ref (o.G.ad (0))), (1, .int (nI (k))), (2, .int (nI (6))), (3, .int (nI (od)))]) hB hm dc_B_sort_5 rfl (by decide) rfl ?_
  refine y_iload_n (pc' := 8) hB dc_B_sort_7 rfl rfl 4 rfl ?_
  refine y_gS (As := [.int (nI (od))]) (rest := []) (pc' := 11) hB (hE.fit (by decide) (by decide)) (hE.rm (by decide) (by decide)) (ct_B_checkOrder o.l o.G S od ho) mm_B_checkOrder q_349 q_350 dc_B_sort_8 rfl rfl rfl (Nat.le_of_ble_eq_true rfl) (fun v S' hpost => ?_)
  obtain ⟨rfl, hSS⟩ := hpost
  rw [hSS]
  clear hSS S'
  show yW o (S) 11 [(4, .ref (o.G.ad (2 + k))), (0, .ref (o.G.ad (0))), (1, .int (nI (k))), (2, .int (nI (6))), (3, .int (nI (od)))] []
  refine y_iload_n (pc' := 12) hB dc_B_sort_11 rfl rfl 3 rfl ?_
  refine y_iload_n (pc' := 13) hB dc_B_sort_12 rfl rfl 4 rfl ?_
  refine y_xS (As := [.int (nI (6)), .int (nI (od))]) (rest := []) hB (hE.fit (by decide) (by decide)) (hE.rm (by decide) (by decide)) (cx_checkWay6 o.l hs o.G S od ho h) mm_B_checkWay q_353 q_354 dc_B_sort_13 rfl rfl (Nat.le_of_ble_eq_true rfl) (fun S' hpost => ?_)
  exact y_out hB hE (by rw [hpost]; exact yU.rf S)
set_option maxHeartbeats 4000000 in
set_option maxRecDepth 100000 in
theorem cx_B_sorted_order (l : Launch) (hs : l.stackTraces = false) (g : YG) (S : YS) (k : Nat) (hk : k < 4) (b : Int32) (h : ¬ zgo b) : yX l mn_B_sorted mb_B_sorted 4 (some .boolean) 9 g [.ref (g.ad (0)), .int (nI (k)), .int (b)] S yXA (fun S' => yU S S') := by
  refine yX_of hs (by decide) (Nat.le_of_ble_eq_true rfl) ?_
  intro o hl hg hB0 hE
  subst hl
  subst hg
  have hB : yB o mb_B_sorted "OrderBench" := hB0
  have hm := hE.1
  show yW o (S) 0 [(0, .ref (o.G.ad (0))), (1, .int (nI (k))), (2, .int (b))] []
  refine y_aload_n (pc' := 1) hB dc_B_sorted_0 rfl rfl 0 rfl ?_
  refine y_iload_n (pc' := 2) hB dc_B_sorted_1 rfl rfl 1 rfl ?_
  refine y_gV (c := 0) (ci := 0) (As := [.int (nI (k))]) (rest := []) (pc' := 5) hB (hE.fit (by decide) (by decide)) (hE.rm (by decide) (by decide)) (ct_B_rowAt o.l o.G (S) k hk) mm_B_rowAt q_137 q_139 qs_0 (by decide) rfl rfl dc_B_sorted_2 rfl rfl rfl (Nat.le_of_ble_eq_true rfl) (fun v S' hpost => ?_)
  obtain ⟨rfl, hSS⟩ := hpost
  rw [hSS]
  clear hSS S'
  show yW o (S) 5 [(0, .ref (o.G.ad (0))), (1, .int (nI (k))), (2, .int (b))] [.ref (o.G.ad (2 + k))]
  refine y_astore_n (pc' := 6) (lv' := [(3, .ref (o.G.ad (2 + k))), (0, .ref (o.G.ad (0))), (1, .int (nI (k))), (2, .int (b))]) hB hm dc_B_sorted_5 rfl rfl (by decide) rfl ?_
  refine y_aload_n (pc' := 7) hB dc_B_sorted_6 rfl rfl 1 rfl ?_
  refine y_iload_n (pc' := 8) hB dc_B_sorted_7 rfl rfl 3 rfl ?_
  refine y_xV (c := 0) (ci := 0) (As := [.int (b)]) (rest := []) hB (hE.fit (by decide) (by decide)) (hE.rm (by decide) (by decide)) (cx_judgeBy o.l hs o.G (S) b h) mm_B_judgeBy q_540 q_542 qs_8 (by decide) rfl rfl dc_B_sorted_8 rfl rfl (Nat.le_of_ble_eq_true rfl) (fun S' hpost => ?_)
  exact y_out hB hE (by rw [hpost]; exact yU.rf S)
set_option maxHeartbeats 4000000 in
set_option maxRecDepth 100000 in
theorem cx_B_runs_order (l : Launch) (hs : l.stackTraces = false) (g : YG) (S : YS) (k : Nat) (hk : k < 4) (b : Int32) (h : ¬ zgo b) : yX l mn_B_runs mb_B_runs 6 (some .int) 9 g [.ref (g.ad (0)), .int (nI (k)), .int (b)] S yXA (fun S' => yU S S') := by
  refine yX_of hs (by decide) (Nat.le_of_ble_eq_true rfl) ?_
  intro o hl hg hB0 hE
  subst hl
  subst hg
  have hB : yB o mb_B_runs "OrderBench" := hB0
  have hm := hE.1
  show yW o (S) 0 [(0, .ref (o.G.ad (0))), (1, .int (nI (k))), (2, .int (b))] []
  refine y_aload_n (pc' := 1) hB dc_B_runs_0 rfl rfl 0 rfl ?_
  refine y_iload_n (pc' := 2) hB dc_B_runs_1 rfl rfl 1 rfl ?_
  refine y_gV (c := 0) (ci := 0) (As := [.int (nI (k))]) (rest := []) (pc' := 5) hB (hE.fit (by decide) (by decide)) (hE.rm (by decide) (by decide)) (ct_B_rowAt o.l o.G (S) k hk) mm_B_rowAt q_137 q_139 qs_0 (by decide) rfl rfl dc_B_runs_2 rfl rfl rfl (Nat.le_of_ble_eq_true rfl) (fun v S' hpost => ?_)
  obtain ⟨rfl, hSS⟩ := hpost
  rw [hSS]
  clear hSS S'
  show yW o (S) 5 [(0, .ref (o.G.ad (0))), (1, .int (nI (k))), (2, .int (b))] [.ref (o.G.ad (2 + k))]
  refine y_astore_n (pc' := 6) (lv' := [(3, .ref (o.G.ad (2 + k))), (0, .ref (o.G.ad (0))), (1, .int (nI (k))), (2, .int (b))]) hB hm dc_B_runs_5 rfl rfl (by decide) rfl ?_
  refine y_aload_n (pc' := 7) hB dc_B_runs_6 rfl rfl 1 rfl ?_
  refine y_iload_n (pc' := 8) hB dc_B_runs_7 rfl rfl 3 rfl ?_
  refine y_xV (c := 0) (ci := 0) (As := [.int (b)]) (rest := []) hB (hE.fit (by decide) (by decide)) (hE.rm (by decide) (by decide)) (cx_judgeBy o.l hs o.G (S) b h) mm_B_judgeBy q_540 q_542 qs_8 (by decide) rfl rfl dc_B_runs_8 rfl rfl (Nat.le_of_ble_eq_true rfl) (fun S' hpost => ?_)
  exact y_out hB hE (by rw [hpost]; exact yU.rf S)
set_option maxHeartbeats 4000000 in
set_option maxRecDepth 100000 in
theorem cx_B_inversions_order (l : Launch) (hs : l.stackTraces = false) (g : YG) (S : YS) (k : Nat) (hk : k < 4) (b : Int32) (h : ¬ zgo b) : yX l mn_B_inversions mb_B_inversions 4 (some .int) 9 g [.ref (g.ad (0)), .int (nI (k)), .int (b)] S yXA (fun S' => yU S S') := by
  refine yX_of hs (by decide) (Nat.le_of_ble_eq_true rfl) ?_
  intro o hl hg hB0 hE
  subst hl
  subst hg
  have hB : yB o mb_B_inversions "OrderBench" := hB0
  have hm := hE.1
  show yW o (S) 0 [(0, .ref (o.G.ad (0))), (1, .int (nI (k))), (2, .int (b))] []
  refine y_aload_n (pc' := 1) hB dc_B_inversions_0 rfl rfl 0 rfl ?_
  refine y_iload_n (pc' := 2) hB dc_B_inversions_1 rfl rfl 1 rfl ?_
  refine y_gV (c := 0) (ci := 0) (As := [.int (nI (k))]) (rest := []) (pc' := 5) hB (hE.fit (by decide) (by decide)) (hE.rm (by decide) (by decide)) (ct_B_rowAt o.l o.G (S) k hk) mm_B_rowAt q_137 q_139 qs_0 (by decide) rfl rfl dc_B_inversions_2 rfl rfl rfl (Nat.le_of_ble_eq_true rfl) (fun v S' hpost => ?_)
  obtain ⟨rfl, hSS⟩ := hpost
  rw [hSS]
  clear hSS S'
  show yW o (S) 5 [(0, .ref (o.G.ad (0))), (1, .int (nI (k))), (2, .int (b))] [.ref (o.G.ad (2 + k))]
  refine y_astore_n (pc' := 6) (lv' := [(3, .ref (o.G.ad (2 + k))), (0, .ref (o.G.ad (0))), (1, .int (nI (k))), (2, .int (b))]) hB hm dc_B_inversions_5 rfl rfl (by decide) rfl ?_
  refine y_aload_n (pc' := 7) hB dc_B_inversions_6 rfl rfl 1 rfl ?_
  refine y_iload_n (pc' := 8) hB dc_B_inversions_7 rfl rfl 3 rfl ?_
  refine y_xV (c := 0) (ci := 0) (As := [.int (b)]) (rest := []) hB (hE.fit (by decide) (by decide)) (hE.rm (by decide) (by decide)) (cx_judgeBy o.l hs o.G (S) b h) mm_B_judgeBy q_540 q_542 qs_8 (by decide) rfl rfl dc_B_inversions_8 rfl rfl (Nat.le_of_ble_eq_true rfl) (fun S' hpost => ?_)
  exact y_out hB hE (by rw [hpost]; exact yU.rf S)
set_option maxHeartbeats 4000000 in
set_option maxRecDepth 100000 in
theorem cx_B_climb_order (l : Launch) (hs : l.stackTraces = false) (g : YG) (S : YS) (k : Nat) (hk : k < 4) (b : Int32) (h : ¬ zgo b) : yX l mn_B_climb mb_B_climb 7 (some .int) 9 g [.ref (g.ad (0)), .int (nI (k)), .int (b)] S yXA (fun S' => yU S S') := by
  refine yX_of hs (by decide) (Nat.le_of_ble_eq_true rfl) ?_
  intro o hl hg hB0 hE
  subst hl
  subst hg
  have hB : yB o mb_B_climb "OrderBench" := hB0
  have hm := hE.1
  show yW o (S) 0 [(0, .ref (o.G.ad (0))), (1, .int (nI (k))), (2, .int (b))] []
  refine y_aload_n (pc' := 1) hB dc_B_climb_0 rfl rfl 0 rfl ?_
  refine y_iload_n (pc' := 2) hB dc_B_climb_1 rfl rfl 1 rfl ?_
  refine y_gV (c := 0) (ci := 0) (As := [.int (nI (k))]) (rest := []) (pc' := 5) hB (hE.fit (by decide) (by decide)) (hE.rm (by decide) (by decide)) (ct_B_rowAt o.l o.G (S) k hk) mm_B_rowAt q_137 q_139 qs_0 (by decide) rfl rfl dc_B_climb_2 rfl rfl rfl (Nat.le_of_ble_eq_true rfl) (fun v S' hpost => ?_)
  obtain ⟨rfl, hSS⟩ := hpost
  rw [hSS]
  clear hSS S'
  show yW o (S) 5 [(0, .ref (o.G.ad (0))), (1, .int (nI (k))), (2, .int (b))] [.ref (o.G.ad (2 + k))]
  refine y_astore_n (pc' := 6) (lv' := [(3, .ref (o.G.ad (2 + k))), (0, .ref (o.G.ad (0))), (1, .int (nI (k))), (2, .int (b))]) hB hm dc_B_climb_5 rfl rfl (by decide) rfl ?_
  refine y_aload_n (pc' := 7) hB dc_B_climb_6 rfl rfl 1 rfl ?_
  refine y_iload_n (pc' := 8) hB dc_B_climb_7 rfl rfl 3 rfl ?_
  refine y_xV (c := 0) (ci := 0) (As := [.int (b)]) (rest := []) hB (hE.fit (by decide) (by decide)) (hE.rm (by decide) (by decide)) (cx_judgeBy o.l hs o.G (S) b h) mm_B_judgeBy q_540 q_542 qs_8 (by decide) rfl rfl dc_B_climb_8 rfl rfl (Nat.le_of_ble_eq_true rfl) (fun S' hpost => ?_)
  exact y_out hB hE (by rw [hpost]; exact yU.rf S)
set_option maxHeartbeats 4000000 in
set_option maxRecDepth 100000 in
theorem cx_B_find_order (l : Launch) (hs : l.stackTraces = false) (g : YG) (S : YS) (k : Nat) (hk : k < 4) (b : Int32) (c : Int64) (d : Int32) (h : ¬ zgo b) : yX l mn_B_find mb_B_find 7 (some .int) 9 g [.ref (g.ad (0)), .int (nI (k)), .int (b), .long (c), .int (d)] S yXA (fun S' => yU S S') := by
  refine yX_of hs (by decide) (Nat.le_of_ble_eq_true rfl) ?_
  intro o hl hg hB0 hE
  subst hl
  subst hg
  have hB : yB o mb_B_find "OrderBench" := hB0
  have hm := hE.1
  show yW o (S) 0 [(0, .ref (o.G.ad (0))), (1, .int (nI (k))), (2, .int (b)), (3, .long (c)), (5, .int (d))] []
  refine y_aload_n (pc' := 1) hB dc_B_find_0 rfl rfl 0 rfl ?_
  refine y_iload_n (pc' := 2) hB dc_B_find_1 rfl rfl 1 rfl ?_
  refine y_gV (c := 0) (ci := 0) (As := [.int (nI (k))]) (rest := []) (pc' := 5) hB (hE.fit (by decide) (by decide)) (hE.rm (by decide) (by decide)) (ct_B_rowAt o.l o.G (S) k hk) mm_B_rowAt q_137 q_139 qs_0 (by decide) rfl rfl dc_B_find_2 rfl rfl rfl (Nat.le_of_ble_eq_true rfl) (fun v S' hpost => ?_)
  obtain ⟨rfl, hSS⟩ := hpost
  rw [hSS]
  clear hSS S'
  show yW o (S) 5 [(0, .ref (o.G.ad (0))), (1, .int (nI (k))), (2, .int (b)), (3, .long (c)), (5, .int (d))] [.ref (o.G.ad (2 + k))]
  refine y_astore (pc' := 7) (lv' := [(6, .ref (o.G.ad (2 + k))), (0, .ref (o.G.ad (0))), (1, .int (nI (k))), (2, .int (b)), (3, .long (c)), (5, .int (d))]) hB hm dc_B_find_5 rfl (by decide) rfl ?_
  refine y_aload_n (pc' := 8) hB dc_B_find_7 rfl rfl 1 rfl ?_
  refine y_iload_n (pc' := 9) hB dc_B_find_8 rfl rfl 3 rfl ?_
  refine y_xV (c := 0) (ci := 0) (As := [.int (b)]) (rest := []) hB (hE.fit (by decide) (by decide)) (hE.rm (by decide) (by decide)) (cx_judgeBy o.l hs o.G (S) b h) mm_B_judgeBy q_540 q_542 qs_8 (by decide) rfl rfl dc_B_find_9 rfl rfl (Nat.le_of_ble_eq_true rfl) (fun S' hpost => ?_)
  exact y_out hB hE (by rw [hpost]; exact yU.rf S)
set_option maxHeartbeats 4000000 in
set_option maxRecDepth 100000 in
theorem cx_B_single_order (l : Launch) (hs : l.stackTraces = false) (g : YG) (S : YS) (k : Nat) (hk : k < 4) (b : Int32) (h : ¬ zgo b) : yX l mn_B_single mb_B_single 6 (some .int) 9 g [.ref (g.ad (0)), .int (nI (k)), .int (b)] S yXA (fun S' => yU S S') := by
  refine yX_of hs (by decide) (Nat.le_of_ble_eq_true rfl) ?_
  intro o hl hg hB0 hE
  subst hl
  subst hg
  have hB : yB o mb_B_single "OrderBench" := hB0
  have hm := hE.1
  show yW o (S) 0 [(0, .ref (o.G.ad (0))), (1, .int (nI (k))), (2, .int (b))] []
  refine y_aload_n (pc' := 1) hB dc_B_single_0 rfl rfl 0 rfl ?_
  refine y_iload_n (pc' := 2) hB dc_B_single_1 rfl rfl 1 rfl ?_
  refine y_gV (c := 0) (ci := 0) (As := [.int (nI (k))]) (rest := []) (pc' := 5) hB (hE.fit (by decide) (by decide)) (hE.rm (by decide) (by decide)) (ct_B_rowAt o.l o.G (S) k hk) mm_B_rowAt q_137 q_139 qs_0 (by decide) rfl rfl dc_B_single_2 rfl rfl rfl (Nat.le_of_ble_eq_true rfl) (fun v S' hpost => ?_)
  obtain ⟨rfl, hSS⟩ := hpost
  rw [hSS]
  clear hSS S'
  show yW o (S) 5 [(0, .ref (o.G.ad (0))), (1, .int (nI (k))), (2, .int (b))] [.ref (o.G.ad (2 + k))]
  refine y_astore_n (pc' := 6) (lv' := [(3, .ref (o.G.ad (2 + k))), (0, .ref (o.G.ad (0))), (1, .int (nI (k))), (2, .int (b))]) hB hm dc_B_single_5 rfl rfl (by decide) rfl ?_
  refine y_aload_n (pc' := 7) hB dc_B_single_6 rfl rfl 1 rfl ?_
  refine y_iload_n (pc' := 8) hB dc_B_single_7 rfl rfl 3 rfl ?_
  refine y_xV (c := 0) (ci := 0) (As := [.int (b)]) (rest := []) hB (hE.fit (by decide) (by decide)) (hE.rm (by decide) (by decide)) (cx_judgeBy o.l hs o.G (S) b h) mm_B_judgeBy q_540 q_542 qs_8 (by decide) rfl rfl dc_B_single_8 rfl rfl (Nat.le_of_ble_eq_true rfl) (fun S' hpost => ?_)
  exact y_out hB hE (by rw [hpost]; exact yU.rf S)
set_option maxHeartbeats 4000000 in
set_option maxRecDepth 100000 in
theorem cx_B_front_order (l : Launch) (hs : l.stackTraces = false) (g : YG) (S : YS) (k : Nat) (hk : k < 4) (b : Int32) (c : Int32) (h : ¬ zgo b) : yX l mn_B_front mb_B_front 5 none 9 g [.ref (g.ad (0)), .int (nI (k)), .int (b), .int (c)] S yXA (fun S' => yU S S') := by
  refine yX_of hs (by decide) (Nat.le_of_ble_eq_true rfl) ?_
  intro o hl hg hB0 hE
  subst hl
  subst hg
  have hB : yB o mb_B_front "OrderBench" := hB0
  have hm := hE.1
  show yW o (S) 0 [(0, .ref (o.G.ad (0))), (1, .int (nI (k))), (2, .int (b)), (3, .int (c))] []
  refine y_aload_n (pc' := 1) hB dc_B_front_0 rfl rfl 0 rfl ?_
  refine y_iload_n (pc' := 2) hB dc_B_front_1 rfl rfl 1 rfl ?_
  refine y_gV (c := 0) (ci := 0) (As := [.int (nI (k))]) (rest := []) (pc' := 5) hB (hE.fit (by decide) (by decide)) (hE.rm (by decide) (by decide)) (ct_B_rowAt o.l o.G (S) k hk) mm_B_rowAt q_137 q_139 qs_0 (by decide) rfl rfl dc_B_front_2 rfl rfl rfl (Nat.le_of_ble_eq_true rfl) (fun v S' hpost => ?_)
  obtain ⟨rfl, hSS⟩ := hpost
  rw [hSS]
  clear hSS S'
  show yW o (S) 5 [(0, .ref (o.G.ad (0))), (1, .int (nI (k))), (2, .int (b)), (3, .int (c))] [.ref (o.G.ad (2 + k))]
  refine y_astore (pc' := 7) (lv' := [(4, .ref (o.G.ad (2 + k))), (0, .ref (o.G.ad (0))), (1, .int (nI (k))), (2, .int (b)), (3, .int (c))]) hB hm dc_B_front_5 rfl (by decide) rfl ?_
  refine y_aload_n (pc' := 8) hB dc_B_front_7 rfl rfl 1 rfl ?_
  refine y_iload_n (pc' := 9) hB dc_B_front_8 rfl rfl 3 rfl ?_
  refine y_xV (c := 0) (ci := 0) (As := [.int (b)]) (rest := []) hB (hE.fit (by decide) (by decide)) (hE.rm (by decide) (by decide)) (cx_judgeBy o.l hs o.G (S) b h) mm_B_judgeBy q_540 q_542 qs_8 (by decide) rfl rfl dc_B_front_9 rfl rfl (Nat.le_of_ble_eq_true rfl) (fun S' hpost => ?_)
  exact y_out hB hE (by rw [hpost]; exact yU.rf S)
set_option maxHeartbeats 4000000 in
set_option maxRecDepth 100000 in
theorem cx_B_ranked_i (l : Launch) (hs : l.stackTraces = false) (g : YG) (S : YS) (k n : Nat) (hk : k < 4) (hn : n ≤ 1024) (hc : gF S (2 + k) 2 = nI n) (b : Int32) (c : Int32) (h : ¬ zgE n c) : yX l mn_B_ranked mb_B_ranked 5 (some .int) 9 g [.ref (g.ad (0)), .int (nI (k)), .int (b), .int (c)] S yXI (fun S' => yU S S') := by
  refine yX_of hs (by decide) (Nat.le_of_ble_eq_true rfl) ?_
  intro o hl hg hB0 hE
  subst hl
  subst hg
  have hB : yB o mb_B_ranked "OrderBench" := hB0
  have hm := hE.1
  show yW o (S) 0 [(0, .ref (o.G.ad (0))), (1, .int (nI (k))), (2, .int (b)), (3, .int (c))] []
  refine y_aload_n (pc' := 1) hB dc_B_ranked_0 rfl rfl 0 rfl ?_
  refine y_iload_n (pc' := 2) hB dc_B_ranked_1 rfl rfl 1 rfl ?_
  refine y_gV (c := 0) (ci := 0) (As := [.int (nI (k))]) (rest := []) (pc' := 5) hB (hE.fit (by decide) (by decide)) (hE.rm (by decide) (by decide)) (ct_B_rowAt o.l o.G (S) k hk) mm_B_rowAt q_137 q_139 qs_0 (by decide) rfl rfl dc_B_ranked_2 rfl rfl rfl (Nat.le_of_ble_eq_true rfl) (fun v S' hpost => ?_)
  obtain ⟨rfl, hSS⟩ := hpost
  rw [hSS]
  clear hSS S'
  show yW o (S) 5 [(0, .ref (o.G.ad (0))), (1, .int (nI (k))), (2, .int (b)), (3, .int (c))] [.ref (o.G.ad (2 + k))]
  refine y_astore (pc' := 7) (lv' := [(4, .ref (o.G.ad (2 + k))), (0, .ref (o.G.ad (0))), (1, .int (nI (k))), (2, .int (b)), (3, .int (c))]) hB hm dc_B_ranked_5 rfl (by decide) rfl ?_
  refine y_aload (pc' := 9) hB dc_B_ranked_7 rfl 0 rfl ?_
  refine y_iload_n (pc' := 10) hB dc_B_ranked_9 rfl rfl 4 rfl ?_
  refine y_xS (As := [.ref (o.G.ad (2 + k)), .int (c)]) (rest := []) hB (hE.fit (by decide) (by decide)) (hE.rm (by decide) (by decide)) (cx_checkEntry o.l hs o.G (S) k (by omega) n hc c h) mm_B_checkEntry q_283 q_284 dc_B_ranked_10 rfl rfl (Nat.le_of_ble_eq_true rfl) (fun S' hpost => ?_)
  exact y_out hB hE (by rw [hpost]; exact yU.rf S)
set_option maxHeartbeats 4000000 in
set_option maxRecDepth 100000 in
theorem cx_B_ranked_order (l : Launch) (hs : l.stackTraces = false) (g : YG) (S : YS) (k n : Nat) (hk : k < 4) (hn : n ≤ 1024) (hc : gF S (2 + k) 2 = nI n) (b : Int32) (i : Nat) (hi : i < n) (h : ¬ zgo b) : yX l mn_B_ranked mb_B_ranked 5 (some .int) 9 g [.ref (g.ad (0)), .int (nI (k)), .int (b), .int (nI (i))] S yXA (fun S' => yU S S') := by
  refine yX_of hs (by decide) (Nat.le_of_ble_eq_true rfl) ?_
  intro o hl hg hB0 hE
  subst hl
  subst hg
  have hB : yB o mb_B_ranked "OrderBench" := hB0
  have hm := hE.1
  show yW o (S) 0 [(0, .ref (o.G.ad (0))), (1, .int (nI (k))), (2, .int (b)), (3, .int (nI (i)))] []
  refine y_aload_n (pc' := 1) hB dc_B_ranked_0 rfl rfl 0 rfl ?_
  refine y_iload_n (pc' := 2) hB dc_B_ranked_1 rfl rfl 1 rfl ?_
  refine y_gV (c := 0) (ci := 0) (As := [.int (nI (k))]) (rest := []) (pc' := 5) hB (hE.fit (by decide) (by decide)) (hE.rm (by decide) (by decide)) (ct_B_rowAt o.l o.G (S) k hk) mm_B_rowAt q_137 q_139 qs_0 (by decide) rfl rfl dc_B_ranked_2 rfl rfl rfl (Nat.le_of_ble_eq_true rfl) (fun v S' hpost => ?_)
  obtain ⟨rfl, hSS⟩ := hpost
  rw [hSS]
  clear hSS S'
  show yW o (S) 5 [(0, .ref (o.G.ad (0))), (1, .int (nI (k))), (2, .int (b)), (3, .int (nI (i)))] [.ref (o.G.ad (2 + k))]
  refine y_astore (pc' := 7) (lv' := [(4, .ref (o.G.ad (2 + k))), (0, .ref (o.G.ad (0))), (1, .int (nI (k))), (2, .int (b)), (3, .int (nI (i)))]) hB hm dc_B_ranked_5 rfl (by decide) rfl ?_
  refine y_aload (pc' := 9) hB dc_B_ranked_7 rfl 0 rfl ?_
  refine y_iload_n (pc' := 10) hB dc_B_ranked_9 rfl rfl 4 rfl ?_
  refine y_gS (As := [.ref (o.G.ad (2 + k)), .int (nI (i))]) (rest := []) (pc' := 13) hB (hE.fit (by decide) (by decide)) (hE.rm (by decide) (by decide)) (ct_B_checkEntry o.l o.G (S) k (by omega) n hn hc i hi) mm_B_checkEntry q_283 q_284 dc_B_ranked_10 rfl rfl rfl (Nat.le_of_ble_eq_true rfl) (fun v S' hpost => ?_)
  obtain ⟨rfl, hSS⟩ := hpost
  rw [hSS]
  clear hSS S'
  show yW o (S) 13 [(4, .ref (o.G.ad (2 + k))), (0, .ref (o.G.ad (0))), (1, .int (nI (k))), (2, .int (b)), (3, .int (nI (i)))] []
  refine y_aload_n (pc' := 14) hB dc_B_ranked_13 rfl rfl 1 rfl ?_
  refine y_iload_n (pc' := 15) hB dc_B_ranked_14 rfl rfl 3 rfl ?_
  refine y_xV (c := 0) (ci := 0) (As := [.int (b)]) (rest := []) hB (hE.fit (by decide) (by decide)) (hE.rm (by decide) (by decide)) (cx_judgeBy o.l hs o.G (S) b h) mm_B_judgeBy q_540 q_542 qs_8 (by decide) rfl rfl dc_B_ranked_15 rfl rfl (Nat.le_of_ble_eq_true rfl) (fun S' hpost => ?_)
  exact y_out hB hE (by rw [hpost]; exact yU.rf S)
set_option maxHeartbeats 4000000 in
set_option maxRecDepth 100000 in
theorem cx_B_find_state (l : Launch) (hs : l.stackTraces = false) (g : YG) (S : YS) (k n : Nat) (hk : k < 4) (hn : n ≤ 1024) (hc : gF S (2 + k) 2 = nI n) (od : Nat) (ho : od < 8) (c : Int64) (d : Int32) (h : ¬ zo (zq od false) (zs (ye S k) 0 n)) : yX l mn_B_find mb_B_find 7 (some .int) 9 g [.ref (g.ad (0)), .int (nI (k)), .int (nI (od)), .long (c), .int (d)] S yXS (fun S' => yU S S') := by
  refine yX_of hs (by decide) (Nat.le_of_ble_eq_true rfl) ?_
  intro o hl hg hB0 hE
  subst hl
  subst hg
  have hB : yB o mb_B_find "OrderBench" := hB0
  have hm := hE.1
  show yW o (S) 0 [(0, .ref (o.G.ad (0))), (1, .int (nI (k))), (2, .int (nI (od))), (3, .long (c)), (5, .int (d))] []
  refine y_aload_n (pc' := 1) hB dc_B_find_0 rfl rfl 0 rfl ?_
  refine y_iload_n (pc' := 2) hB dc_B_find_1 rfl rfl 1 rfl ?_
  refine y_gV (c := 0) (ci := 0) (As := [.int (nI (k))]) (rest := []) (pc' := 5) hB (hE.fit (by decide) (by decide)) (hE.rm (by decide) (by decide)) (ct_B_rowAt o.l o.G (S) k hk) mm_B_rowAt q_137 q_139 qs_0 (by decide) rfl rfl dc_B_find_2 rfl rfl rfl (Nat.le_of_ble_eq_true rfl) (fun v S' hpost => ?_)
  obtain ⟨rfl, hSS⟩ := hpost
  rw [hSS]
  clear hSS S'
  show yW o (S) 5 [(0, .ref (o.G.ad (0))), (1, .int (nI (k))), (2, .int (nI (od))), (3, .long (c)), (5, .int (d))] [.ref (o.G.ad (2 + k))]
  refine y_astore (pc' := 7) (lv' := [(6, .ref (o.G.ad (2 + k))), (0, .ref (o.G.ad (0))), (1, .int (nI (k))), (2, .int (nI (od))), (3, .long (c)), (5, .int (d))]) hB hm dc_B_find_5 rfl (by decide) rfl ?_
  refine y_aload_n (pc' := 8) hB dc_B_find_7 rfl rfl 1 rfl ?_
  refine y_iload_n (pc' := 9) hB dc_B_find_8 rfl rfl 3 rfl ?_
  refine y_gV (c := 0) (ci := 0) (As := [.int (nI (od))]) (rest := []) (pc' := 12) hB (hE.fit (by decide) (by decide)) (hE.rm (by decide) (by decide)) (ct_B_judgeBy o.l o.G S od ho) mm_B_judgeBy q_540 q_542 qs_8 (by decide) rfl rfl dc_B_find_9 rfl rfl rfl (Nat.le_of_ble_eq_true rfl) (fun v S' hpost => ?_)
  obtain ⟨rfl, hSS⟩ := hpost
  rw [hSS]
  clear hSS S'
  show yW o (yj S od false) 12 [(6, .ref (o.G.ad (2 + k))), (0, .ref (o.G.ad (0))), (1, .int (nI (k))), (2, .int (nI (od))), (3, .long (c)), (5, .int (d))] []
  have hJ := yj_J S false ho
  refine y_aload_n (pc' := 13) hB dc_B_find_12 rfl rfl 1 rfl ?_
  refine y_aload (pc' := 15) hB dc_B_find_13 rfl 0 rfl ?_
  refine y_xV (c := 0) (ci := 0) (As := [.ref (o.G.ad (2 + k))]) (rest := []) hB (hE.fit (by decide) (by decide)) (hE.rm (by decide) (by decide)) (cx_checkInOrder o.l hs o.G (yj S od false) od false 0 hJ k (by omega) n hn ((yj_n S od false (by omega)).trans hc) h) mm_B_checkInOrder q_589 q_591 qs_10 (by decide) rfl rfl dc_B_find_15 rfl rfl (Nat.le_of_ble_eq_true rfl) (fun S' hpost => ?_)
  exact y_out hB hE ((yU_yj S od false).tr hpost)
set_option maxHeartbeats 4000000 in
set_option maxRecDepth 100000 in
theorem cx_B_single_state (l : Launch) (hs : l.stackTraces = false) (g : YG) (S : YS) (k n : Nat) (hk : k < 4) (hn : n ≤ 1024) (hc : gF S (2 + k) 2 = nI n) (od : Nat) (ho : od < 8) (h : ¬ zo (zq od false) (zs (ye S k) 0 n)) : yX l mn_B_single mb_B_single 6 (some .int) 9 g [.ref (g.ad (0)), .int (nI (k)), .int (nI (od))] S yXS (fun S' => yU S S') := by
  refine yX_of hs (by decide) (Nat.le_of_ble_eq_true rfl) ?_
  intro o hl hg hB0 hE
  subst hl
  subst hg
  have hB : yB o mb_B_single "OrderBench" := hB0
  have hm := hE.1
  show yW o (S) 0 [(0, .ref (o.G.ad (0))), (1, .int (nI (k))), (2, .int (nI (od)))] []
  refine y_aload_n (pc' := 1) hB dc_B_single_0 rfl rfl 0 rfl ?_
  refine y_iload_n (pc' := 2) hB dc_B_single_1 rfl rfl 1 rfl ?_
  refine y_gV (c := 0) (ci := 0) (As := [.int (nI (k))]) (rest := []) (pc' := 5) hB (hE.fit (by decide) (by decide)) (hE.rm (by decide) (by decide)) (ct_B_rowAt o.l o.G (S) k hk) mm_B_rowAt q_137 q_139 qs_0 (by decide) rfl rfl dc_B_single_2 rfl rfl rfl (Nat.le_of_ble_eq_true rfl) (fun v S' hpost => ?_)
  obtain ⟨rfl, hSS⟩ := hpost
  rw [hSS]
  clear hSS S'
  show yW o (S) 5 [(0, .ref (o.G.ad (0))), (1, .int (nI (k))), (2, .int (nI (od)))] [.ref (o.G.ad (2 + k))]
  refine y_astore_n (pc' := 6) (lv' := [(3, .ref (o.G.ad (2 + k))), (0, .ref (o.G.ad (0))), (1, .int (nI (k))), (2, .int (nI (od)))]) hB hm dc_B_single_5 rfl rfl (by decide) rfl ?_
  refine y_aload_n (pc' := 7) hB dc_B_single_6 rfl rfl 1 rfl ?_
  refine y_iload_n (pc' := 8) hB dc_B_single_7 rfl rfl 3 rfl ?_
  refine y_gV (c := 0) (ci := 0) (As := [.int (nI (od))]) (rest := []) (pc' := 11) hB (hE.fit (by decide) (by decide)) (hE.rm (by decide) (by decide)) (ct_B_judgeBy o.l o.G S od ho) mm_B_judgeBy q_540 q_542 qs_8 (by decide) rfl rfl dc_B_single_8 rfl rfl rfl (Nat.le_of_ble_eq_true rfl) (fun v S' hpost => ?_)
  obtain ⟨rfl, hSS⟩ := hpost
  rw [hSS]
  clear hSS S'
  show yW o (yj S od false) 11 [(3, .ref (o.G.ad (2 + k))), (0, .ref (o.G.ad (0))), (1, .int (nI (k))), (2, .int (nI (od)))] []
  have hJ := yj_J S false ho
  refine y_aload_n (pc' := 12) hB dc_B_single_11 rfl rfl 1 rfl ?_
  refine y_aload_n (pc' := 13) hB dc_B_single_12 rfl rfl 0 rfl ?_
  refine y_xV (c := 0) (ci := 0) (As := [.ref (o.G.ad (2 + k))]) (rest := []) hB (hE.fit (by decide) (by decide)) (hE.rm (by decide) (by decide)) (cx_checkInOrder o.l hs o.G (yj S od false) od false 0 hJ k (by omega) n hn ((yj_n S od false (by omega)).trans hc) h) mm_B_checkInOrder q_589 q_591 qs_10 (by decide) rfl rfl dc_B_single_13 rfl rfl (Nat.le_of_ble_eq_true rfl) (fun S' hpost => ?_)
  exact y_out hB hE ((yU_yj S od false).tr hpost)
set_option maxHeartbeats 4000000 in
set_option maxRecDepth 100000 in
theorem cx_B_front_k (l : Launch) (hs : l.stackTraces = false) (g : YG) (S : YS) (k n : Nat) (hk : k < 4) (hn : n ≤ 1024) (hc : gF S (2 + k) 2 = nI n) (od : Nat) (ho : od < 8) (c : Int32) (h : ¬ zgB n c) : yX l mn_B_front mb_B_front 5 none 9 g [.ref (g.ad (0)), .int (nI (k)), .int (nI (od)), .int (c)] S yXA (fun S' => yU S S') := by
  refine yX_of hs (by decide) (Nat.le_of_ble_eq_true rfl) ?_
  intro o hl hg hB0 hE
  subst hl
  subst hg
  have hB : yB o mb_B_front "OrderBench" := hB0
  have hm := hE.1
  show yW o (S) 0 [(0, .ref (o.G.ad (0))), (1, .int (nI (k))), (2, .int (nI (od))), (3, .int (c))] []
  refine y_aload_n (pc' := 1) hB dc_B_front_0 rfl rfl 0 rfl ?_
  refine y_iload_n (pc' := 2) hB dc_B_front_1 rfl rfl 1 rfl ?_
  refine y_gV (c := 0) (ci := 0) (As := [.int (nI (k))]) (rest := []) (pc' := 5) hB (hE.fit (by decide) (by decide)) (hE.rm (by decide) (by decide)) (ct_B_rowAt o.l o.G (S) k hk) mm_B_rowAt q_137 q_139 qs_0 (by decide) rfl rfl dc_B_front_2 rfl rfl rfl (Nat.le_of_ble_eq_true rfl) (fun v S' hpost => ?_)
  obtain ⟨rfl, hSS⟩ := hpost
  rw [hSS]
  clear hSS S'
  show yW o (S) 5 [(0, .ref (o.G.ad (0))), (1, .int (nI (k))), (2, .int (nI (od))), (3, .int (c))] [.ref (o.G.ad (2 + k))]
  refine y_astore (pc' := 7) (lv' := [(4, .ref (o.G.ad (2 + k))), (0, .ref (o.G.ad (0))), (1, .int (nI (k))), (2, .int (nI (od))), (3, .int (c))]) hB hm dc_B_front_5 rfl (by decide) rfl ?_
  refine y_aload_n (pc' := 8) hB dc_B_front_7 rfl rfl 1 rfl ?_
  refine y_iload_n (pc' := 9) hB dc_B_front_8 rfl rfl 3 rfl ?_
  refine y_gV (c := 0) (ci := 0) (As := [.int (nI (od))]) (rest := []) (pc' := 12) hB (hE.fit (by decide) (by decide)) (hE.rm (by decide) (by decide)) (ct_B_judgeBy o.l o.G S od ho) mm_B_judgeBy q_540 q_542 qs_8 (by decide) rfl rfl dc_B_front_9 rfl rfl rfl (Nat.le_of_ble_eq_true rfl) (fun v S' hpost => ?_)
  obtain ⟨rfl, hSS⟩ := hpost
  rw [hSS]
  clear hSS S'
  show yW o (yj S od false) 12 [(4, .ref (o.G.ad (2 + k))), (0, .ref (o.G.ad (0))), (1, .int (nI (k))), (2, .int (nI (od))), (3, .int (c))] []
  have hJ := yj_J S false ho
  refine y_iload_n (pc' := 13) hB dc_B_front_12 rfl rfl 4 rfl ?_
  refine y_if_lt (x := c) (pc' := 16) (tg := 25) hB dc_B_front_13 rfl rfl (fun b1 => ?_) (fun b1 => ?_)
  · exact y_throw (is := 90) (text := "the row has not as many entries") hB hE (by decide) xOk_A (by decide +kernel) dc_B_front_25 dc_B_front_28 dc_B_front_29 dc_B_front_31 dc_B_front_34 (yU_yj S od false)
  · refine y_iload_n (pc' := 17) hB dc_B_front_16 rfl rfl 4 rfl ?_
    refine y_aload (pc' := 19) hB dc_B_front_17 rfl 0 rfl ?_
    refine f_count (r := k) (pc' := 22) hB dc_B_front_19 rfl (by omega) q_53 ?_
    refine y_topi (y := nI n) ((yj_n S od false (by omega)).trans hc) ?_
    refine y_icmp_le (x := c) (y := nI n) (pc' := 25) (tg := 35) hB dc_B_front_22 rfl rfl (fun b2 => ?_) (fun b2 => ?_)
    · exact absurd ⟨b1, b2⟩ h
    · exact y_throw (is := 90) (text := "the row has not as many entries") hB hE (by decide) xOk_A (by decide +kernel) dc_B_front_25 dc_B_front_28 dc_B_front_29 dc_B_front_31 dc_B_front_34 (yU_yj S od false)
set_option maxHeartbeats 4000000 in
set_option maxRecDepth 100000 in
theorem cx_B_merge_b (l : Launch) (hs : l.stackTraces = false) (g : YG) (S : YS) (k : Nat) (hk : k < 4) (b : Int32) (c : Int32) (d : Int32) (h : ¬ zgr b) : yX l mn_B_merge mb_B_merge 10 (some .int) 9 g [.ref (g.ad (0)), .int (nI (k)), .int (b), .int (c), .int (d)] S yXI (fun S' => yU S S') := by
  refine yX_of hs (by decide) (Nat.le_of_ble_eq_true rfl) ?_
  intro o hl hg hB0 hE
  subst hl
  subst hg
  have hB : yB o mb_B_merge "OrderBench" := hB0
  have hm := hE.1
  show yW o (S) 0 [(0, .ref (o.G.ad (0))), (1, .int (nI (k))), (2, .int (b)), (3, .int (c)), (4, .int (d))] []
  refine y_aload_n (pc' := 1) hB dc_B_merge_0 rfl rfl 0 rfl ?_
  refine y_iload_n (pc' := 2) hB dc_B_merge_1 rfl rfl 1 rfl ?_
  refine y_gV (c := 0) (ci := 0) (As := [.int (nI (k))]) (rest := []) (pc' := 5) hB (hE.fit (by decide) (by decide)) (hE.rm (by decide) (by decide)) (ct_B_rowAt o.l o.G (S) k hk) mm_B_rowAt q_137 q_139 qs_0 (by decide) rfl rfl dc_B_merge_2 rfl rfl rfl (Nat.le_of_ble_eq_true rfl) (fun v S' hpost => ?_)
  obtain ⟨rfl, hSS⟩ := hpost
  rw [hSS]
  clear hSS S'
  show yW o (S) 5 [(0, .ref (o.G.ad (0))), (1, .int (nI (k))), (2, .int (b)), (3, .int (c)), (4, .int (d))] [.ref (o.G.ad (2 + k))]
  refine y_astore (pc' := 7) (lv' := [(5, .ref (o.G.ad (2 + k))), (0, .ref (o.G.ad (0))), (1, .int (nI (k))), (2, .int (b)), (3, .int (c)), (4, .int (d))]) hB hm dc_B_merge_5 rfl (by decide) rfl ?_
  refine y_aload_n (pc' := 8) hB dc_B_merge_7 rfl rfl 1 rfl ?_
  refine y_iload_n (pc' := 9) hB dc_B_merge_8 rfl rfl 3 rfl ?_
  refine y_xV (c := 0) (ci := 0) (As := [.int (b)]) (rest := []) hB (hE.fit (by decide) (by decide)) (hE.rm (by decide) (by decide)) (cx_rowAt o.l hs o.G (S) b h) mm_B_rowAt q_137 q_139 qs_0 (by decide) rfl rfl dc_B_merge_9 rfl rfl (Nat.le_of_ble_eq_true rfl) (fun S' hpost => ?_)
  exact y_out hB hE (by rw [hpost]; exact yU.rf S)
set_option maxHeartbeats 4000000 in
set_option maxRecDepth 100000 in
theorem cx_B_merge_to (l : Launch) (hs : l.stackTraces = false) (g : YG) (S : YS) (k q : Nat) (hk : k < 4) (hq : q < 4) (c d : Int32) (h : ¬ zgr c) : yX l mn_B_merge mb_B_merge 10 (some .int) 9 g [.ref (g.ad (0)), .int (nI (k)), .int (nI (q)), .int (c), .int (d)] S yXI (fun S' => yU S S') := by
  refine yX_of hs (by decide) (Nat.le_of_ble_eq_true rfl) ?_
  intro o hl hg hB0 hE
  subst hl
  subst hg
  have hB : yB o mb_B_merge "OrderBench" := hB0
  have hm := hE.1
  show yW o (S) 0 [(0, .ref (o.G.ad (0))), (1, .int (nI (k))), (2, .int (nI (q))), (3, .int (c)), (4, .int (d))] []
  refine y_aload_n (pc' := 1) hB dc_B_merge_0 rfl rfl 0 rfl ?_
  refine y_iload_n (pc' := 2) hB dc_B_merge_1 rfl rfl 1 rfl ?_
  refine y_gV (c := 0) (ci := 0) (As := [.int (nI (k))]) (rest := []) (pc' := 5) hB (hE.fit (by decide) (by decide)) (hE.rm (by decide) (by decide)) (ct_B_rowAt o.l o.G (S) k hk) mm_B_rowAt q_137 q_139 qs_0 (by decide) rfl rfl dc_B_merge_2 rfl rfl rfl (Nat.le_of_ble_eq_true rfl) (fun v S' hpost => ?_)
  obtain ⟨rfl, hSS⟩ := hpost
  rw [hSS]
  clear hSS S'
  show yW o (S) 5 [(0, .ref (o.G.ad (0))), (1, .int (nI (k))), (2, .int (nI (q))), (3, .int (c)), (4, .int (d))] [.ref (o.G.ad (2 + k))]
  refine y_astore (pc' := 7) (lv' := [(5, .ref (o.G.ad (2 + k))), (0, .ref (o.G.ad (0))), (1, .int (nI (k))), (2, .int (nI (q))), (3, .int (c)), (4, .int (d))]) hB hm dc_B_merge_5 rfl (by decide) rfl ?_
  refine y_aload_n (pc' := 8) hB dc_B_merge_7 rfl rfl 1 rfl ?_
  refine y_iload_n (pc' := 9) hB dc_B_merge_8 rfl rfl 3 rfl ?_
  refine y_gV (c := 0) (ci := 0) (As := [.int (nI (q))]) (rest := []) (pc' := 12) hB (hE.fit (by decide) (by decide)) (hE.rm (by decide) (by decide)) (ct_B_rowAt o.l o.G (S) q hq) mm_B_rowAt q_137 q_139 qs_0 (by decide) rfl rfl dc_B_merge_9 rfl rfl rfl (Nat.le_of_ble_eq_true rfl) (fun v S' hpost => ?_)
  obtain ⟨rfl, hSS⟩ := hpost
  rw [hSS]
  clear hSS S'
  show yW o (S) 12 [(5, .ref (o.G.ad (2 + k))), (0, .ref (o.G.ad (0))), (1, .int (nI (k))), (2, .int (nI (q))), (3, .int (c)), (4, .int (d))] [.ref (o.G.ad (2 + q))]
  refine y_astore (pc' := 14) (lv' := [(6, .ref (o.G.ad (2 + q))), (5, .ref (o.G.ad (2 + k))), (0, .ref (o.G.ad (0))), (1, .int (nI (k))), (2, .int (nI (q))), (3, .int (c)), (4, .int (d))]) hB hm dc_B_merge_12 rfl (by decide) rfl ?_
  refine y_aload_n (pc' := 15) hB dc_B_merge_14 rfl rfl 2 rfl ?_
  refine y_iload_n (pc' := 16) hB dc_B_merge_15 rfl rfl 5 rfl ?_
  refine y_xV (c := 0) (ci := 0) (As := [.int (c)]) (rest := []) hB (hE.fit (by decide) (by decide)) (hE.rm (by decide) (by decide)) (cx_rowAt o.l hs o.G (S) c h) mm_B_rowAt q_137 q_139 qs_0 (by decide) rfl rfl dc_B_merge_16 rfl rfl (Nat.le_of_ble_eq_true rfl) (fun S' hpost => ?_)
  exact y_out hB hE (by rw [hpost]; exact yU.rf S)
set_option maxHeartbeats 4000000 in
set_option maxRecDepth 100000 in
theorem cx_B_merge_order (l : Launch) (hs : l.stackTraces = false) (g : YG) (S : YS) (k q p : Nat) (hk : k < 4) (hq : q < 4) (hp : p < 4) (d : Int32) (h : ¬ zgo d) : yX l mn_B_merge mb_B_merge 10 (some .int) 9 g [.ref (g.ad (0)), .int (nI (k)), .int (nI (q)), .int (nI (p)), .int (d)] S yXA (fun S' => yU S S') := by
  refine yX_of hs (by decide) (Nat.le_of_ble_eq_true rfl) ?_
  intro o hl hg hB0 hE
  subst hl
  subst hg
  have hB : yB o mb_B_merge "OrderBench" := hB0
  have hm := hE.1
  show yW o (S) 0 [(0, .ref (o.G.ad (0))), (1, .int (nI (k))), (2, .int (nI (q))), (3, .int (nI (p))), (4, .int (d))] []
  refine y_aload_n (pc' := 1) hB dc_B_merge_0 rfl rfl 0 rfl ?_
  refine y_iload_n (pc' := 2) hB dc_B_merge_1 rfl rfl 1 rfl ?_
  refine y_gV (c := 0) (ci := 0) (As := [.int (nI (k))]) (rest := []) (pc' := 5) hB (hE.fit (by decide) (by decide)) (hE.rm (by decide) (by decide)) (ct_B_rowAt o.l o.G (S) k hk) mm_B_rowAt q_137 q_139 qs_0 (by decide) rfl rfl dc_B_merge_2 rfl rfl rfl (Nat.le_of_ble_eq_true rfl) (fun v S' hpost => ?_)
  obtain ⟨rfl, hSS⟩ := hpost
  rw [hSS]
  clear hSS S'
  show yW o (S) 5 [(0, .ref (o.G.ad (0))), (1, .int (nI (k))), (2, .int (nI (q))), (3, .int (nI (p))), (4, .int (d))] [.ref (o.G.ad (2 + k))]
  refine y_astore (pc' := 7) (lv' := [(5, .ref (o.G.ad (2 + k))), (0, .ref (o.G.ad (0))), (1, .int (nI (k))), (2, .int (nI (q))), (3, .int (nI (p))), (4, .int (d))]) hB hm dc_B_merge_5 rfl (by decide) rfl ?_
  refine y_aload_n (pc' := 8) hB dc_B_merge_7 rfl rfl 1 rfl ?_
  refine y_iload_n (pc' := 9) hB dc_B_merge_8 rfl rfl 3 rfl ?_
  refine y_gV (c := 0) (ci := 0) (As := [.int (nI (q))]) (rest := []) (pc' := 12) hB (hE.fit (by decide) (by decide)) (hE.rm (by decide) (by decide)) (ct_B_rowAt o.l o.G (S) q hq) mm_B_rowAt q_137 q_139 qs_0 (by decide) rfl rfl dc_B_merge_9 rfl rfl rfl (Nat.le_of_ble_eq_true rfl) (fun v S' hpost => ?_)
  obtain ⟨rfl, hSS⟩ := hpost
  rw [hSS]
  clear hSS S'
  show yW o (S) 12 [(5, .ref (o.G.ad (2 + k))), (0, .ref (o.G.ad (0))), (1, .int (nI (k))), (2, .int (nI (q))), (3, .int (nI (p))), (4, .int (d))] [.ref (o.G.ad (2 + q))]
  refine y_astore (pc' := 14) (lv' := [(6, .ref (o.G.ad (2 + q))), (5, .ref (o.G.ad (2 + k))), (0, .ref (o.G.ad (0))), (1, .int (nI (k))), (2, .int (nI (q))), (3, .int (nI (p))), (4, .int (d))]) hB hm dc_B_merge_12 rfl (by decide) rfl ?_
  refine y_aload_n (pc' := 15) hB dc_B_merge_14 rfl rfl 2 rfl ?_
  refine y_iload_n (pc' := 16) hB dc_B_merge_15 rfl rfl 5 rfl ?_
  refine y_gV (c := 0) (ci := 0) (As := [.int (nI (p))]) (rest := []) (pc' := 19) hB (hE.fit (by decide) (by decide)) (hE.rm (by decide) (by decide)) (ct_B_rowAt o.l o.G (S) p hp) mm_B_rowAt q_137 q_139 qs_0 (by decide) rfl rfl dc_B_merge_16 rfl rfl rfl (Nat.le_of_ble_eq_true rfl) (fun v S' hpost => ?_)
  obtain ⟨rfl, hSS⟩ := hpost
  rw [hSS]
  clear hSS S'
  show yW o (S) 19 [(6, .ref (o.G.ad (2 + q))), (5, .ref (o.G.ad (2 + k))), (0, .ref (o.G.ad (0))), (1, .int (nI (k))), (2, .int (nI (q))), (3, .int (nI (p))), (4, .int (d))] [.ref (o.G.ad (2 + p))]
  refine y_astore (pc' := 21) (lv' := [(7, .ref (o.G.ad (2 + p))), (6, .ref (o.G.ad (2 + q))), (5, .ref (o.G.ad (2 + k))), (0, .ref (o.G.ad (0))), (1, .int (nI (k))), (2, .int (nI (q))), (3, .int (nI (p))), (4, .int (d))]) hB hm dc_B_merge_19 rfl (by decide) rfl ?_
  refine y_aload_n (pc' := 22) hB dc_B_merge_21 rfl rfl 3 rfl ?_
  refine y_iload (pc' := 24) hB dc_B_merge_22 rfl 7 rfl ?_
  refine y_xV (c := 0) (ci := 0) (As := [.int (d)]) (rest := []) hB (hE.fit (by decide) (by decide)) (hE.rm (by decide) (by decide)) (cx_judgeBy o.l hs o.G (S) d h) mm_B_judgeBy q_540 q_542 qs_8 (by decide) rfl rfl dc_B_merge_24 rfl rfl (Nat.le_of_ble_eq_true rfl) (fun S' hpost => ?_)
  exact y_out hB hE (by rw [hpost]; exact yU.rf S)
set_option maxHeartbeats 4000000 in
set_option maxRecDepth 100000 in
theorem cx_B_merge_first (l : Launch) (hs : l.stackTraces = false) (g : YG) (S : YS) (k q p n m : Nat) (hk : k < 4) (hq : q < 4) (hp : p < 4) (hn : n ≤ 1024) (hm2 : m ≤ 1024) (hc : gF S (2 + k) 2 = nI n) (hc2 : gF S (2 + q) 2 = nI m) (od : Nat) (ho : od < 8) (h : ¬ zo (zq od false) (zs (ye S k) 0 n)) : yX l mn_B_merge mb_B_merge 10 (some .int) 9 g [.ref (g.ad (0)), .int (nI (k)), .int (nI (q)), .int (nI (p)), .int (nI (od))] S yXS (fun S' => yU S S') := by
  refine yX_of hs (by decide) (Nat.le_of_ble_eq_true rfl) ?_
  intro o hl hg hB0 hE
  subst hl
  subst hg
  have hB : yB o mb_B_merge "OrderBench" := hB0
  have hm := hE.1
  show yW o (S) 0 [(0, .ref (o.G.ad (0))), (1, .int (nI (k))), (2, .int (nI (q))), (3, .int (nI (p))), (4, .int (nI (od)))] []
  refine y_aload_n (pc' := 1) hB dc_B_merge_0 rfl rfl 0 rfl ?_
  refine y_iload_n (pc' := 2) hB dc_B_merge_1 rfl rfl 1 rfl ?_
  refine y_gV (c := 0) (ci := 0) (As := [.int (nI (k))]) (rest := []) (pc' := 5) hB (hE.fit (by decide) (by decide)) (hE.rm (by decide) (by decide)) (ct_B_rowAt o.l o.G (S) k hk) mm_B_rowAt q_137 q_139 qs_0 (by decide) rfl rfl dc_B_merge_2 rfl rfl rfl (Nat.le_of_ble_eq_true rfl) (fun v S' hpost => ?_)
  obtain ⟨rfl, hSS⟩ := hpost
  rw [hSS]
  clear hSS S'
  show yW o (S) 5 [(0, .ref (o.G.ad (0))), (1, .int (nI (k))), (2, .int (nI (q))), (3, .int (nI (p))), (4, .int (nI (od)))] [.ref (o.G.ad (2 + k))]
  refine y_astore (pc' := 7) (lv' := [(5, .ref (o.G.ad (2 + k))), (0, .ref (o.G.ad (0))), (1, .int (nI (k))), (2, .int (nI (q))), (3, .int (nI (p))), (4, .int (nI (od)))]) hB hm dc_B_merge_5 rfl (by decide) rfl ?_
  refine y_aload_n (pc' := 8) hB dc_B_merge_7 rfl rfl 1 rfl ?_
  refine y_iload_n (pc' := 9) hB dc_B_merge_8 rfl rfl 3 rfl ?_
  refine y_gV (c := 0) (ci := 0) (As := [.int (nI (q))]) (rest := []) (pc' := 12) hB (hE.fit (by decide) (by decide)) (hE.rm (by decide) (by decide)) (ct_B_rowAt o.l o.G (S) q hq) mm_B_rowAt q_137 q_139 qs_0 (by decide) rfl rfl dc_B_merge_9 rfl rfl rfl (Nat.le_of_ble_eq_true rfl) (fun v S' hpost => ?_)
  obtain ⟨rfl, hSS⟩ := hpost
  rw [hSS]
  clear hSS S'
  show yW o (S) 12 [(5, .ref (o.G.ad (2 + k))), (0, .ref (o.G.ad (0))), (1, .int (nI (k))), (2, .int (nI (q))), (3, .int (nI (p))), (4, .int (nI (od)))] [.ref (o.G.ad (2 + q))]
  refine y_astore (pc' := 14) (lv' := [(6, .ref (o.G.ad (2 + q))), (5, .ref (o.G.ad (2 + k))), (0, .ref (o.G.ad (0))), (1, .int (nI (k))), (2, .int (nI (q))), (3, .int (nI (p))), (4, .int (nI (od)))]) hB hm dc_B_merge_12 rfl (by decide) rfl ?_
  refine y_aload_n (pc' := 15) hB dc_B_merge_14 rfl rfl 2 rfl ?_
  refine y_iload_n (pc' := 16) hB dc_B_merge_15 rfl rfl 5 rfl ?_
  refine y_gV (c := 0) (ci := 0) (As := [.int (nI (p))]) (rest := []) (pc' := 19) hB (hE.fit (by decide) (by decide)) (hE.rm (by decide) (by decide)) (ct_B_rowAt o.l o.G (S) p hp) mm_B_rowAt q_137 q_139 qs_0 (by decide) rfl rfl dc_B_merge_16 rfl rfl rfl (Nat.le_of_ble_eq_true rfl) (fun v S' hpost => ?_)
  obtain ⟨rfl, hSS⟩ := hpost
  rw [hSS]
  clear hSS S'
  show yW o (S) 19 [(6, .ref (o.G.ad (2 + q))), (5, .ref (o.G.ad (2 + k))), (0, .ref (o.G.ad (0))), (1, .int (nI (k))), (2, .int (nI (q))), (3, .int (nI (p))), (4, .int (nI (od)))] [.ref (o.G.ad (2 + p))]
  refine y_astore (pc' := 21) (lv' := [(7, .ref (o.G.ad (2 + p))), (6, .ref (o.G.ad (2 + q))), (5, .ref (o.G.ad (2 + k))), (0, .ref (o.G.ad (0))), (1, .int (nI (k))), (2, .int (nI (q))), (3, .int (nI (p))), (4, .int (nI (od)))]) hB hm dc_B_merge_19 rfl (by decide) rfl ?_
  refine y_aload_n (pc' := 22) hB dc_B_merge_21 rfl rfl 3 rfl ?_
  refine y_iload (pc' := 24) hB dc_B_merge_22 rfl 7 rfl ?_
  refine y_gV (c := 0) (ci := 0) (As := [.int (nI (od))]) (rest := []) (pc' := 27) hB (hE.fit (by decide) (by decide)) (hE.rm (by decide) (by decide)) (ct_B_judgeBy o.l o.G S od ho) mm_B_judgeBy q_540 q_542 qs_8 (by decide) rfl rfl dc_B_merge_24 rfl rfl rfl (Nat.le_of_ble_eq_true rfl) (fun v S' hpost => ?_)
  obtain ⟨rfl, hSS⟩ := hpost
  rw [hSS]
  clear hSS S'
  show yW o (yj S od false) 27 [(7, .ref (o.G.ad (2 + p))), (6, .ref (o.G.ad (2 + q))), (5, .ref (o.G.ad (2 + k))), (0, .ref (o.G.ad (0))), (1, .int (nI (k))), (2, .int (nI (q))), (3, .int (nI (p))), (4, .int (nI (od)))] []
  have hJ := yj_J S false ho
  refine y_aload_n (pc' := 28) hB dc_B_merge_27 rfl rfl 3 rfl ?_
  refine y_aload (pc' := 30) hB dc_B_merge_28 rfl 2 rfl ?_
  refine y_xV (c := 0) (ci := 0) (As := [.ref (o.G.ad (2 + k))]) (rest := []) hB (hE.fit (by decide) (by decide)) (hE.rm (by decide) (by decide)) (cx_checkInOrder o.l hs o.G (yj S od false) od false 0 hJ k (by omega) n hn ((yj_n S od false (by omega)).trans hc) h) mm_B_checkInOrder q_589 q_591 qs_10 (by decide) rfl rfl dc_B_merge_30 rfl rfl (Nat.le_of_ble_eq_true rfl) (fun S' hpost => ?_)
  exact y_out hB hE ((yU_yj S od false).tr hpost)
set_option maxHeartbeats 4000000 in
set_option maxRecDepth 100000 in
theorem cx_B_merge_second (l : Launch) (hs : l.stackTraces = false) (g : YG) (S : YS) (k q p n m : Nat) (hk : k < 4) (hq : q < 4) (hp : p < 4) (hn : n ≤ 1024) (hm2 : m ≤ 1024) (hc : gF S (2 + k) 2 = nI n) (hc2 : gF S (2 + q) 2 = nI m) (od : Nat) (ho : od < 8) (s1 : zo (zq od false) (zs (ye S k) 0 n)) (h : ¬ zo (zq od false) (zs (ye S q) 0 m)) : yX l mn_B_merge mb_B_merge 10 (some .int) 9 g [.ref (g.ad (0)), .int (nI (k)), .int (nI (q)), .int (nI (p)), .int (nI (od))] S yXS (fun S' => yU S S') := by
  refine yX_of hs (by decide) (Nat.le_of_ble_eq_true rfl) ?_
  intro o hl hg hB0 hE
  subst hl
  subst hg
  have hB : yB o mb_B_merge "OrderBench" := hB0
  have hm := hE.1
  show yW o (S) 0 [(0, .ref (o.G.ad (0))), (1, .int (nI (k))), (2, .int (nI (q))), (3, .int (nI (p))), (4, .int (nI (od)))] []
  refine y_aload_n (pc' := 1) hB dc_B_merge_0 rfl rfl 0 rfl ?_
  refine y_iload_n (pc' := 2) hB dc_B_merge_1 rfl rfl 1 rfl ?_
  refine y_gV (c := 0) (ci := 0) (As := [.int (nI (k))]) (rest := []) (pc' := 5) hB (hE.fit (by decide) (by decide)) (hE.rm (by decide) (by decide)) (ct_B_rowAt o.l o.G (S) k hk) mm_B_rowAt q_137 q_139 qs_0 (by decide) rfl rfl dc_B_merge_2 rfl rfl rfl (Nat.le_of_ble_eq_true rfl) (fun v S' hpost => ?_)
  obtain ⟨rfl, hSS⟩ := hpost
  rw [hSS]
  clear hSS S'
  show yW o (S) 5 [(0, .ref (o.G.ad (0))), (1, .int (nI (k))), (2, .int (nI (q))), (3, .int (nI (p))), (4, .int (nI (od)))] [.ref (o.G.ad (2 + k))]
  refine y_astore (pc' := 7) (lv' := [(5, .ref (o.G.ad (2 + k))), (0, .ref (o.G.ad (0))), (1, .int (nI (k))), (2, .int (nI (q))), (3, .int (nI (p))), (4, .int (nI (od)))]) hB hm dc_B_merge_5 rfl (by decide) rfl ?_
  refine y_aload_n (pc' := 8) hB dc_B_merge_7 rfl rfl 1 rfl ?_
  refine y_iload_n (pc' := 9) hB dc_B_merge_8 rfl rfl 3 rfl ?_
  refine y_gV (c := 0) (ci := 0) (As := [.int (nI (q))]) (rest := []) (pc' := 12) hB (hE.fit (by decide) (by decide)) (hE.rm (by decide) (by decide)) (ct_B_rowAt o.l o.G (S) q hq) mm_B_rowAt q_137 q_139 qs_0 (by decide) rfl rfl dc_B_merge_9 rfl rfl rfl (Nat.le_of_ble_eq_true rfl) (fun v S' hpost => ?_)
  obtain ⟨rfl, hSS⟩ := hpost
  rw [hSS]
  clear hSS S'
  show yW o (S) 12 [(5, .ref (o.G.ad (2 + k))), (0, .ref (o.G.ad (0))), (1, .int (nI (k))), (2, .int (nI (q))), (3, .int (nI (p))), (4, .int (nI (od)))] [.ref (o.G.ad (2 + q))]
  refine y_astore (pc' := 14) (lv' := [(6, .ref (o.G.ad (2 + q))), (5, .ref (o.G.ad (2 + k))), (0, .ref (o.G.ad (0))), (1, .int (nI (k))), (2, .int (nI (q))), (3, .int (nI (p))), (4, .int (nI (od)))]) hB hm dc_B_merge_12 rfl (by decide) rfl ?_
  refine y_aload_n (pc' := 15) hB dc_B_merge_14 rfl rfl 2 rfl ?_
  refine y_iload_n (pc' := 16) hB dc_B_merge_15 rfl rfl 5 rfl ?_
  refine y_gV (c := 0) (ci := 0) (As := [.int (nI (p))]) (rest := []) (pc' := 19) hB (hE.fit (by decide) (by decide)) (hE.rm (by decide) (by decide)) (ct_B_rowAt o.l o.G (S) p hp) mm_B_rowAt q_137 q_139 qs_0 (by decide) rfl rfl dc_B_merge_16 rfl rfl rfl (Nat.le_of_ble_eq_true rfl) (fun v S' hpost => ?_)
  obtain ⟨rfl, hSS⟩ := hpost
  rw [hSS]
  clear hSS S'
  show yW o (S) 19 [(6, .ref (o.G.ad (2 + q))), (5, .ref (o.G.ad (2 + k))), (0, .ref (o.G.ad (0))), (1, .int (nI (k))), (2, .int (nI (q))), (3, .int (nI (p))), (4, .int (nI (od)))] [.ref (o.G.ad (2 + p))]
  refine y_astore (pc' := 21) (lv' := [(7, .ref (o.G.ad (2 + p))), (6, .ref (o.G.ad (2 + q))), (5, .ref (o.G.ad (2 + k))), (0, .ref (o.G.ad (0))), (1, .int (nI (k))), (2, .int (nI (q))), (3, .int (nI (p))), (4, .int (nI (od)))]) hB hm dc_B_merge_19 rfl (by decide) rfl ?_
  refine y_aload_n (pc' := 22) hB dc_B_merge_21 rfl rfl 3 rfl ?_
  refine y_iload (pc' := 24) hB dc_B_merge_22 rfl 7 rfl ?_
  refine y_gV (c := 0) (ci := 0) (As := [.int (nI (od))]) (rest := []) (pc' := 27) hB (hE.fit (by decide) (by decide)) (hE.rm (by decide) (by decide)) (ct_B_judgeBy o.l o.G S od ho) mm_B_judgeBy q_540 q_542 qs_8 (by decide) rfl rfl dc_B_merge_24 rfl rfl rfl (Nat.le_of_ble_eq_true rfl) (fun v S' hpost => ?_)
  obtain ⟨rfl, hSS⟩ := hpost
  rw [hSS]
  clear hSS S'
  show yW o (yj S od false) 27 [(7, .ref (o.G.ad (2 + p))), (6, .ref (o.G.ad (2 + q))), (5, .ref (o.G.ad (2 + k))), (0, .ref (o.G.ad (0))), (1, .int (nI (k))), (2, .int (nI (q))), (3, .int (nI (p))), (4, .int (nI (od)))] []
  have hJ := yj_J S false ho
  refine y_aload_n (pc' := 28) hB dc_B_merge_27 rfl rfl 3 rfl ?_
  refine y_aload (pc' := 30) hB dc_B_merge_28 rfl 2 rfl ?_
  refine y_gV (c := 0) (ci := 0) (As := [.ref (o.G.ad (2 + k))]) (rest := []) (pc' := 33) hB (hE.fit (by decide) (by decide)) (hE.rm (by decide) (by decide)) (ct_B_checkInOrder o.l o.G (yj S od false) od false 0 hJ k (by omega) n hn ((yj_n S od false (by omega)).trans hc) s1) mm_B_checkInOrder q_589 q_591 qs_10 (by decide) rfl rfl dc_B_merge_30 rfl rfl rfl (Nat.le_of_ble_eq_true rfl) (fun v S' hpost => ?_)
  obtain ⟨c0, rfl, rfl⟩ := hpost
  show yW o (yq (yj S od false) c0) 33 [(7, .ref (o.G.ad (2 + p))), (6, .ref (o.G.ad (2 + q))), (5, .ref (o.G.ad (2 + k))), (0, .ref (o.G.ad (0))), (1, .int (nI (k))), (2, .int (nI (q))), (3, .int (nI (p))), (4, .int (nI (od)))] []
  have hJ2 := yJ_yq hJ c0
  refine y_aload_n (pc' := 34) hB dc_B_merge_33 rfl rfl 3 rfl ?_
  refine y_aload (pc' := 36) hB dc_B_merge_34 rfl 1 rfl ?_
  refine y_xV (c := 0) (ci := 0) (As := [.ref (o.G.ad (2 + q))]) (rest := []) hB (hE.fit (by decide) (by decide)) (hE.rm (by decide) (by decide)) (cx_checkInOrder o.l hs o.G (yq (yj S od false) c0) od false c0 hJ2 q (by omega) m hm2 ((gF_yq _ c0 q (by omega)).trans ((yj_n S od false (by omega)).trans hc2)) h) mm_B_checkInOrder q_589 q_591 qs_10 (by decide) rfl rfl dc_B_merge_36 rfl rfl (Nat.le_of_ble_eq_true rfl) (fun S' hpost => ?_)
  exact y_out hB hE (((yU_yj S od false).tr (yU_yq _ c0)).tr hpost)
set_option maxHeartbeats 4000000 in
set_option maxRecDepth 100000 in
theorem cx_B_merge_room (l : Launch) (hs : l.stackTraces = false) (g : YG) (S : YS) (k q p n m : Nat) (hk : k < 4) (hq : q < 4) (hp : p < 4) (hn : n ≤ 1024) (hm2 : m ≤ 1024) (hc : gF S (2 + k) 2 = nI n) (hc2 : gF S (2 + q) 2 = nI m) (od : Nat) (ho : od < 8) (s1 : zo (zq od false) (zs (ye S k) 0 n)) (s2 : zo (zq od false) (zs (ye S q) 0 m)) (h : ¬ n + m ≤ 1024) : yX l mn_B_merge mb_B_merge 10 (some .int) 9 g [.ref (g.ad (0)), .int (nI (k)), .int (nI (q)), .int (nI (p)), .int (nI (od))] S yXS (fun S' => yU S S') := by
  refine yX_of hs (by decide) (Nat.le_of_ble_eq_true rfl) ?_
  intro o hl hg hB0 hE
  subst hl
  subst hg
  have hB : yB o mb_B_merge "OrderBench" := hB0
  have hm := hE.1
  show yW o (S) 0 [(0, .ref (o.G.ad (0))), (1, .int (nI (k))), (2, .int (nI (q))), (3, .int (nI (p))), (4, .int (nI (od)))] []
  refine y_aload_n (pc' := 1) hB dc_B_merge_0 rfl rfl 0 rfl ?_
  refine y_iload_n (pc' := 2) hB dc_B_merge_1 rfl rfl 1 rfl ?_
  refine y_gV (c := 0) (ci := 0) (As := [.int (nI (k))]) (rest := []) (pc' := 5) hB (hE.fit (by decide) (by decide)) (hE.rm (by decide) (by decide)) (ct_B_rowAt o.l o.G (S) k hk) mm_B_rowAt q_137 q_139 qs_0 (by decide) rfl rfl dc_B_merge_2 rfl rfl rfl (Nat.le_of_ble_eq_true rfl) (fun v S' hpost => ?_)
  obtain ⟨rfl, hSS⟩ := hpost
  rw [hSS]
  clear hSS S'
  show yW o (S) 5 [(0, .ref (o.G.ad (0))), (1, .int (nI (k))), (2, .int (nI (q))), (3, .int (nI (p))), (4, .int (nI (od)))] [.ref (o.G.ad (2 + k))]
  refine y_astore (pc' := 7) (lv' := [(5, .ref (o.G.ad (2 + k))), (0, .ref (o.G.ad (0))), (1, .int (nI (k))), (2, .int (nI (q))), (3, .int (nI (p))), (4, .int (nI (od)))]) hB hm dc_B_merge_5 rfl (by decide) rfl ?_
  refine y_aload_n (pc' := 8) hB dc_B_merge_7 rfl rfl 1 rfl ?_
  refine y_iload_n (pc' := 9) hB dc_B_merge_8 rfl rfl 3 rfl ?_
  refine y_gV (c := 0) (ci := 0) (As := [.int (nI (q))]) (rest := []) (pc' := 12) hB (hE.fit (by decide) (by decide)) (hE.rm (by decide) (by decide)) (ct_B_rowAt o.l o.G (S) q hq) mm_B_rowAt q_137 q_139 qs_0 (by decide) rfl rfl dc_B_merge_9 rfl rfl rfl (Nat.le_of_ble_eq_true rfl) (fun v S' hpost => ?_)
  obtain ⟨rfl, hSS⟩ := hpost
  rw [hSS]
  clear hSS S'
  show yW o (S) 12 [(5, .ref (o.G.ad (2 + k))), (0, .ref (o.G.ad (0))), (1, .int (nI (k))), (2, .int (nI (q))), (3, .int (nI (p))), (4, .int (nI (od)))] [.ref (o.G.ad (2 + q))]
  refine y_astore (pc' := 14) (lv' := [(6, .ref (o.G.ad (2 + q))), (5, .ref (o.G.ad (2 + k))), (0, .ref (o.G.ad (0))), (1, .int (nI (k))), (2, .int (nI (q))), (3, .int (nI (p))), (4, .int (nI (od)))]) hB hm dc_B_merge_12 rfl (by decide) rfl ?_
  refine y_aload_n (pc' := 15) hB dc_B_merge_14 rfl rfl 2 rfl ?_
  refine y_iload_n (pc' := 16) hB dc_B_merge_15 rfl rfl 5 rfl ?_
  refine y_gV (c := 0) (ci := 0) (As := [.int (nI (p))]) (rest := []) (pc' := 19) hB (hE.fit (by decide) (by decide)) (hE.rm (by decide) (by decide)) (ct_B_rowAt o.l o.G (S) p hp) mm_B_rowAt q_137 q_139 qs_0 (by decide) rfl rfl dc_B_merge_16 rfl rfl rfl (Nat.le_of_ble_eq_true rfl) (fun v S' hpost => ?_)
  obtain ⟨rfl, hSS⟩ := hpost
  rw [hSS]
  clear hSS S'
  show yW o (S) 19 [(6, .ref (o.G.ad (2 + q))), (5, .ref (o.G.ad (2 + k))), (0, .ref (o.G.ad (0))), (1, .int (nI (k))), (2, .int (nI (q))), (3, .int (nI (p))), (4, .int (nI (od)))] [.ref (o.G.ad (2 + p))]
  refine y_astore (pc' := 21) (lv' := [(7, .ref (o.G.ad (2 + p))), (6, .ref (o.G.ad (2 + q))), (5, .ref (o.G.ad (2 + k))), (0, .ref (o.G.ad (0))), (1, .int (nI (k))), (2, .int (nI (q))), (3, .int (nI (p))), (4, .int (nI (od)))]) hB hm dc_B_merge_19 rfl (by decide) rfl ?_
  refine y_aload_n (pc' := 22) hB dc_B_merge_21 rfl rfl 3 rfl ?_
  refine y_iload (pc' := 24) hB dc_B_merge_22 rfl 7 rfl ?_
  refine y_gV (c := 0) (ci := 0) (As := [.int (nI (od))]) (rest := []) (pc' := 27) hB (hE.fit (by decide) (by decide)) (hE.rm (by decide) (by decide)) (ct_B_judgeBy o.l o.G S od ho) mm_B_judgeBy q_540 q_542 qs_8 (by decide) rfl rfl dc_B_merge_24 rfl rfl rfl (Nat.le_of_ble_eq_true rfl) (fun v S' hpost => ?_)
  obtain ⟨rfl, hSS⟩ := hpost
  rw [hSS]
  clear hSS S'
  show yW o (yj S od false) 27 [(7, .ref (o.G.ad (2 + p))), (6, .ref (o.G.ad (2 + q))), (5, .ref (o.G.ad (2 + k))), (0, .ref (o.G.ad (0))), (1, .int (nI (k))), (2, .int (nI (q))), (3, .int (nI (p))), (4, .int (nI (od)))] []
  have hJ := yj_J S false ho
  refine y_aload_n (pc' := 28) hB dc_B_merge_27 rfl rfl 3 rfl ?_
  refine y_aload (pc' := 30) hB dc_B_merge_28 rfl 2 rfl ?_
  refine y_gV (c := 0) (ci := 0) (As := [.ref (o.G.ad (2 + k))]) (rest := []) (pc' := 33) hB (hE.fit (by decide) (by decide)) (hE.rm (by decide) (by decide)) (ct_B_checkInOrder o.l o.G (yj S od false) od false 0 hJ k (by omega) n hn ((yj_n S od false (by omega)).trans hc) s1) mm_B_checkInOrder q_589 q_591 qs_10 (by decide) rfl rfl dc_B_merge_30 rfl rfl rfl (Nat.le_of_ble_eq_true rfl) (fun v S' hpost => ?_)
  obtain ⟨c0, rfl, rfl⟩ := hpost
  show yW o (yq (yj S od false) c0) 33 [(7, .ref (o.G.ad (2 + p))), (6, .ref (o.G.ad (2 + q))), (5, .ref (o.G.ad (2 + k))), (0, .ref (o.G.ad (0))), (1, .int (nI (k))), (2, .int (nI (q))), (3, .int (nI (p))), (4, .int (nI (od)))] []
  have hJ2 := yJ_yq hJ c0
  refine y_aload_n (pc' := 34) hB dc_B_merge_33 rfl rfl 3 rfl ?_
  refine y_aload (pc' := 36) hB dc_B_merge_34 rfl 1 rfl ?_
  refine y_gV (c := 0) (ci := 0) (As := [.ref (o.G.ad (2 + q))]) (rest := []) (pc' := 39) hB (hE.fit (by decide) (by decide)) (hE.rm (by decide) (by decide)) (ct_B_checkInOrder o.l o.G (yq (yj S od false) c0) od false c0 hJ2 q (by omega) m hm2 ((gF_yq _ c0 q (by omega)).trans ((yj_n S od false (by omega)).trans hc2)) s2) mm_B_checkInOrder q_589 q_591 qs_10 (by decide) rfl rfl dc_B_merge_36 rfl rfl rfl (Nat.le_of_ble_eq_true rfl) (fun v S' hpost => ?_)
  obtain ⟨c1, rfl, rfl⟩ := hpost
  show yW o (yq (yq (yj S od false) c0) c1) 39 [(7, .ref (o.G.ad (2 + p))), (6, .ref (o.G.ad (2 + q))), (5, .ref (o.G.ad (2 + k))), (0, .ref (o.G.ad (0))), (1, .int (nI (k))), (2, .int (nI (q))), (3, .int (nI (p))), (4, .int (nI (od)))] []
  refine y_aload (pc' := 41) hB dc_B_merge_39 rfl 2 rfl ?_
  refine f_count (r := k) (pc' := 44) hB dc_B_merge_41 rfl (by omega) q_53 ?_
  refine y_topi (y := nI (n)) ((gF_yq _ c1 k (by omega)).trans ((gF_yq _ c0 k (by omega)).trans ((yj_n S od false (by omega)).trans hc))) ?_
  refine y_istore (pc' := 46) (lv' := [(8, .int (nI (n))), (7, .ref (o.G.ad (2 + p))), (6, .ref (o.G.ad (2 + q))), (5, .ref (o.G.ad (2 + k))), (0, .ref (o.G.ad (0))), (1, .int (nI (k))), (2, .int (nI (q))), (3, .int (nI (p))), (4, .int (nI (od)))]) hB hm dc_B_merge_44 rfl (by decide) rfl ?_
  refine y_iload (pc' := 48) hB dc_B_merge_46 rfl 0 rfl ?_
  refine y_aload (pc' := 50) hB dc_B_merge_48 rfl 2 rfl ?_
  refine f_count (r := q) (pc' := 53) hB dc_B_merge_50 rfl (by omega) q_53 ?_
  refine y_topi (y := nI (m)) ((gF_yq _ c1 q (by omega)).trans ((gF_yq _ c0 q (by omega)).trans ((yj_n S od false (by omega)).trans hc2))) ?_
  refine n_iadd (x := n) (y := m) (pc' := 54) hB dc_B_merge_53 rfl ?_
  refine y_istore (pc' := 56) (lv' := [(9, .int (nI (n + m))), (8, .int (nI (n))), (7, .ref (o.G.ad (2 + p))), (6, .ref (o.G.ad (2 + q))), (5, .ref (o.G.ad (2 + k))), (0, .ref (o.G.ad (0))), (1, .int (nI (k))), (2, .int (nI (q))), (3, .int (nI (p))), (4, .int (nI (od)))]) hB hm dc_B_merge_54 rfl (by decide) rfl ?_
  refine y_iload (pc' := 58) hB dc_B_merge_56 rfl 0 rfl ?_
  refine y_sipush (v := nI 1024) (pc' := 61) hB dc_B_merge_58 rfl (by decide) ?_
  refine n_icmp_le (pc' := 64) (tg := 74) hB dc_B_merge_61 rfl rfl (by omega) (by omega) (fun b1 => ?_) (fun b1 => ?_)
  · exact absurd b1 h
  · exact y_throw (is := 190) (text := "there is no room for all entries of both rows") hB hE (by decide) xOk_S (by decide +kernel) dc_B_merge_64 dc_B_merge_67 dc_B_merge_68 dc_B_merge_70 dc_B_merge_73 ((yU_yj S od false).tr ((yU_yq _ c0).tr (yU_yq _ c1)))
