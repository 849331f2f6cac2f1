/-! REFERENCE: bad arguments -/
set_option maxHeartbeats 4000000 in
set_option maxRecDepth 100000 in
theorem ct_M_noEntryR (l : Launch) (g : YG) (S : YS) (a i : Int32) (h : ¬ zgr a) : yC l mn_M_noEntry mb_M_noEntry 3 (some .boolean) 0 g [.ref (g.ad (24)), .int (a), .int (i)] S (fun v S' => v = some (.int 1) ∧ S' = yx S 1) := by
  refine yC_of (by decide) (Nat.le_of_ble_eq_true rfl) ?_
  intro o hl hg hB0 hE
  subst hl
  subst hg
  have hB : yB o mb_M_noEntry "OrderBenchModel" := hB0
  have hm := hE.1
  show yW o (S) 0 [(0, .ref (o.G.ad (24))), (1, .int (a)), (2, .int (i))] []
  refine y_aload_n (pc' := 1) hB dc_M_noEntry_0 rfl rfl 0 rfl ?_
  refine y_iload_n (pc' := 2) hB dc_M_noEntry_1 rfl rfl 1 rfl ?_
  refine y_if_lt (x := a) (pc' := 5) (tg := 24) hB dc_M_noEntry_2 rfl rfl (fun b0 => ?_) (fun b0 => ?_)
  · refine y_iconst (v := nI 1) (pc' := 25) hB dc_M_noEntry_24 rfl rfl ?_
    refine y_goto (tg := 29) hB dc_M_noEntry_25 rfl ?_
    refine p_M_code (pc' := 32) hB dc_M_noEntry_29 rfl q_639 ?_
    show yW o (yx S 1) 32 [(0, .ref (o.G.ad (24))), (1, .int (a)), (2, .int (i))] []
    refine y_aload_n (pc' := 33) hB dc_M_noEntry_32 rfl rfl 0 rfl ?_
    refine f_M_code (pc' := 36) hB dc_M_noEntry_33 rfl q_639 ?_
    refine y_topi (y := nI (1)) (yx_c S 1) ?_
    refine n_if_le (pc' := 39) (tg := 43) hB dc_M_noEntry_36 rfl rfl (by omega) (fun bz => ?_) (fun bz => ?_)
    · omega
    · refine y_iconst (v := nI 1) (pc' := 40) hB dc_M_noEntry_39 rfl rfl ?_
      refine y_goto (tg := 44) hB dc_M_noEntry_40 rfl ?_
      exact y_zret hB hE dc_M_noEntry_44 (Or.inr rfl) ⟨rfl, rfl⟩
  · refine y_iload_n (pc' := 6) hB dc_M_noEntry_5 rfl rfl 1 rfl ?_
    refine y_iconst (v := nI 3) (pc' := 7) hB dc_M_noEntry_6 rfl rfl ?_
    refine y_icmp_gt (x := a) (y := nI (3)) (pc' := 10) (tg := 24) hB dc_M_noEntry_7 rfl rfl (fun b1 => ?_) (fun b1 => ?_)
    · refine y_iconst (v := nI 1) (pc' := 25) hB dc_M_noEntry_24 rfl rfl ?_
      refine y_goto (tg := 29) hB dc_M_noEntry_25 rfl ?_
      refine p_M_code (pc' := 32) hB dc_M_noEntry_29 rfl q_639 ?_
      show yW o (yx S 1) 32 [(0, .ref (o.G.ad (24))), (1, .int (a)), (2, .int (i))] []
      refine y_aload_n (pc' := 33) hB dc_M_noEntry_32 rfl rfl 0 rfl ?_
      refine f_M_code (pc' := 36) hB dc_M_noEntry_33 rfl q_639 ?_
      refine y_topi (y := nI (1)) (yx_c S 1) ?_
      refine n_if_le (pc' := 39) (tg := 43) hB dc_M_noEntry_36 rfl rfl (by omega) (fun bz => ?_) (fun bz => ?_)
      · omega
      · refine y_iconst (v := nI 1) (pc' := 40) hB dc_M_noEntry_39 rfl rfl ?_
        refine y_goto (tg := 44) hB dc_M_noEntry_40 rfl ?_
        exact y_zret hB hE dc_M_noEntry_44 (Or.inr rfl) ⟨rfl, rfl⟩
    · exact absurd ⟨b0, Int32.not_lt.mp b1⟩ h
set_option maxHeartbeats 4000000 in
set_option maxRecDepth 100000 in
theorem ct_M_noEntryX (l : Launch) (g : YG) (S : YS) (k n : Nat) (hk : k < 4) (hn : n ≤ 1024) (hc : gI S 27 k = nI n) (i : Int32) (h : ¬ zgE n i) : yC l mn_M_noEntry mb_M_noEntry 3 (some .boolean) 0 g [.ref (g.ad (24)), .int (nI (k)), .int (i)] S (fun v S' => v = some (.int 1) ∧ S' = yx S 1) := by
  refine yC_of (by decide) (Nat.le_of_ble_eq_true rfl) ?_
  intro o hl hg hB0 hE
  subst hl
  subst hg
  have hB : yB o mb_M_noEntry "OrderBenchModel" := hB0
  have hm := hE.1
  show yW o (S) 0 [(0, .ref (o.G.ad (24))), (1, .int (nI (k))), (2, .int (i))] []
  refine y_aload_n (pc' := 1) hB dc_M_noEntry_0 rfl rfl 0 rfl ?_
  refine y_iload_n (pc' := 2) hB dc_M_noEntry_1 rfl rfl 1 rfl ?_
  refine n_if_lt (pc' := 5) (tg := 24) hB dc_M_noEntry_2 rfl rfl (by omega) ?_
  refine y_iload_n (pc' := 6) hB dc_M_noEntry_5 rfl rfl 1 rfl ?_
  refine y_iconst (v := nI 3) (pc' := 7) hB dc_M_noEntry_6 rfl rfl ?_
  refine n_icmp_gt (pc' := 10) (tg := 24) hB dc_M_noEntry_7 rfl rfl (by omega) (by omega) (fun b1 => ?_) (fun b1 => ?_)
  · omega
  · refine y_iload_n (pc' := 11) hB dc_M_noEntry_10 rfl rfl 2 rfl ?_
    refine y_if_lt (x := i) (pc' := 14) (tg := 24) hB dc_M_noEntry_11 rfl rfl (fun b2 => ?_) (fun b2 => ?_)
    · refine y_iconst (v := nI 1) (pc' := 25) hB dc_M_noEntry_24 rfl rfl ?_
      refine y_goto (tg := 29) hB dc_M_noEntry_25 rfl ?_
      refine p_M_code (pc' := 32) hB dc_M_noEntry_29 rfl q_639 ?_
      show yW o (yx S 1) 32 [(0, .ref (o.G.ad (24))), (1, .int (nI (k))), (2, .int (i))] []
      refine y_aload_n (pc' := 33) hB dc_M_noEntry_32 rfl rfl 0 rfl ?_
      refine f_M_code (pc' := 36) hB dc_M_noEntry_33 rfl q_639 ?_
      refine y_topi (y := nI (1)) (yx_c S 1) ?_
      refine n_if_le (pc' := 39) (tg := 43) hB dc_M_noEntry_36 rfl rfl (by omega) (fun bz => ?_) (fun bz => ?_)
      · omega
      · refine y_iconst (v := nI 1) (pc' := 40) hB dc_M_noEntry_39 rfl rfl ?_
        refine y_goto (tg := 44) hB dc_M_noEntry_40 rfl ?_
        exact y_zret hB hE dc_M_noEntry_44 (Or.inr rfl) ⟨rfl, rfl⟩
    · refine y_iload_n (pc' := 15) hB dc_M_noEntry_14 rfl rfl 2 rfl ?_
      refine y_aload_n (pc' := 16) hB dc_M_noEntry_15 rfl rfl 0 rfl ?_
      refine f_M_sizes (pc' := 19) hB dc_M_noEntry_16 rfl q_642 ?_
      refine y_iload_n (pc' := 20) hB dc_M_noEntry_19 rfl rfl 1 rfl ?_
      refine y_iald (c := 27) (n := 4) (j := k) (pc' := 21) hB dc_M_noEntry_20 rfl (by decide) rfl (by omega) (by decide) ?_
      refine y_topi (y := nI n) (hc) ?_
      refine y_icmp_lt (x := i) (y := nI n) (pc' := 24) (tg := 28) hB dc_M_noEntry_21 rfl rfl (fun b3 => ?_) (fun b3 => ?_)
      · exact absurd ⟨b2, b3⟩ h
      · refine y_iconst (v := nI 1) (pc' := 25) hB dc_M_noEntry_24 rfl rfl ?_
        refine y_goto (tg := 29) hB dc_M_noEntry_25 rfl ?_
        refine p_M_code (pc' := 32) hB dc_M_noEntry_29 rfl q_639 ?_
        show yW o (yx S 1) 32 [(0, .ref (o.G.ad (24))), (1, .int (nI (k))), (2, .int (i))] []
        refine y_aload_n (pc' := 33) hB dc_M_noEntry_32 rfl rfl 0 rfl ?_
        refine f_M_code (pc' := 36) hB dc_M_noEntry_33 rfl q_639 ?_
        refine y_topi (y := nI (1)) (yx_c S 1) ?_
        refine n_if_le (pc' := 39) (tg := 43) hB dc_M_noEntry_36 rfl rfl (by omega) (fun bz => ?_) (fun bz => ?_)
        · omega
        · refine y_iconst (v := nI 1) (pc' := 40) hB dc_M_noEntry_39 rfl rfl ?_
          refine y_goto (tg := 44) hB dc_M_noEntry_40 rfl ?_
          exact y_zret hB hE dc_M_noEntry_44 (Or.inr rfl) ⟨rfl, rfl⟩
set_option maxHeartbeats 4000000 in
set_option maxRecDepth 100000 in
theorem ct_M_add_row (l : Launch) (g : YG) (S : YS) (a : Int32) (b : Int64) (c : Int32) (h : ¬ zgr a) : yC l mn_M_add mb_M_add 5 (some .int) 5 g [.ref (g.ad (24)), .int (a), .long (b), .int (c)] S (fun v S' => v = some (.int (nI 0)) ∧ S' = yx S 1) := by
  refine yC_of (by decide) (Nat.le_of_ble_eq_true rfl) ?_
  intro o hl hg hB0 hE
  subst hl
  subst hg
  have hB : yB o mb_M_add "OrderBenchModel" := hB0
  have hm := hE.1
  show yW o (S) 0 [(0, .ref (o.G.ad (24))), (1, .int (a)), (2, .long (b)), (4, .int (c))] []
  refine y_aload_n (pc' := 1) hB dc_M_add_0 rfl rfl 0 rfl ?_
  refine y_iload_n (pc' := 2) hB dc_M_add_1 rfl rfl 1 rfl ?_
  refine y_callV (c := 24) (ci := 4) (As := [.int (a)]) (rest := []) (pc' := 5) hB hE (ct_M_noRowX o.l o.G (S) a h) mm_M_noRow q_672 q_674 qs_12 (by decide) rfl rfl dc_M_add_2 rfl (by decide) rfl rfl (Nat.le_of_ble_eq_true rfl) (fun v S' hpost => ?_)
  obtain ⟨rfl, hSS⟩ := hpost
  rw [hSS]
  clear hSS S'
  show yW o (yx S 1) 5 [(0, .ref (o.G.ad (24))), (1, .int (a)), (2, .long (b)), (4, .int (c))] [.int (1)]
  refine y_if_eq (x := 1) (pc' := 8) (tg := 10) hB dc_M_add_5 rfl rfl (fun b1 => ?_) (fun b1 => ?_)
  · exact absurd b1 (by decide)
  · skip
    refine y_iconst (v := nI 0) (pc' := 9) hB dc_M_add_8 rfl rfl ?_
    exact y_iret hB hE dc_M_add_9 ⟨rfl, rfl⟩
set_option maxHeartbeats 4000000 in
set_option maxRecDepth 100000 in
theorem ct_M_fill_row (l : Launch) (g : YG) (S : YS) (a : Int32) (b : Int32) (c : Int32) (d : Int64) (e : Int32) (h : ¬ zgr a) : yC l mn_M_fill mb_M_fill 12 none 5 g [.ref (g.ad (24)), .int (a), .int (b), .int (c), .long (d), .int (e)] S (fun v S' => v = none ∧ S' = yx S 1) := by
  refine yC_of (by decide) (Nat.le_of_ble_eq_true rfl) ?_
  intro o hl hg hB0 hE
  subst hl
  subst hg
  have hB : yB o mb_M_fill "OrderBenchModel" := hB0
  have hm := hE.1
  show yW o (S) 0 [(0, .ref (o.G.ad (24))), (1, .int (a)), (2, .int (b)), (3, .int (c)), (4, .long (d)), (6, .int (e))] []
  refine y_aload_n (pc' := 1) hB dc_M_fill_0 rfl rfl 0 rfl ?_
  refine y_iload_n (pc' := 2) hB dc_M_fill_1 rfl rfl 1 rfl ?_
  refine y_callV (c := 24) (ci := 4) (As := [.int (a)]) (rest := []) (pc' := 5) hB hE (ct_M_noRowX o.l o.G (S) a h) mm_M_noRow q_672 q_674 qs_12 (by decide) rfl rfl dc_M_fill_2 rfl (by decide) rfl rfl (Nat.le_of_ble_eq_true rfl) (fun v S' hpost => ?_)
  obtain ⟨rfl, hSS⟩ := hpost
  rw [hSS]
  clear hSS S'
  show yW o (yx S 1) 5 [(0, .ref (o.G.ad (24))), (1, .int (a)), (2, .int (b)), (3, .int (c)), (4, .long (d)), (6, .int (e))] [.int (1)]
  refine y_if_eq (x := 1) (pc' := 8) (tg := 9) hB dc_M_fill_5 rfl rfl (fun b2 => ?_) (fun b2 => ?_)
  · exact absurd b2 (by decide)
  · skip
    exact y_vret hB hE dc_M_fill_8 ⟨rfl, rfl⟩
set_option maxHeartbeats 4000000 in
set_option maxRecDepth 100000 in
theorem ct_M_cut_row (l : Launch) (g : YG) (S : YS) (a : Int32) (b : Int32) (h : ¬ zgr a) : yC l mn_M_cut mb_M_cut 3 none 5 g [.ref (g.ad (24)), .int (a), .int (b)] S (fun v S' => v = none ∧ S' = yx S 1) := by
  refine yC_of (by decide) (Nat.le_of_ble_eq_true rfl) ?_
  intro o hl hg hB0 hE
  subst hl
  subst hg
  have hB : yB o mb_M_cut "OrderBenchModel" := hB0
  have hm := hE.1
  show yW o (S) 0 [(0, .ref (o.G.ad (24))), (1, .int (a)), (2, .int (b))] []
  refine y_aload_n (pc' := 1) hB dc_M_cut_0 rfl rfl 0 rfl ?_
  refine y_iload_n (pc' := 2) hB dc_M_cut_1 rfl rfl 1 rfl ?_
  refine y_callV (c := 24) (ci := 4) (As := [.int (a)]) (rest := []) (pc' := 5) hB hE (ct_M_noRowX o.l o.G (S) a h) mm_M_noRow q_672 q_674 qs_12 (by decide) rfl rfl dc_M_cut_2 rfl (by decide) rfl rfl (Nat.le_of_ble_eq_true rfl) (fun v S' hpost => ?_)
  obtain ⟨rfl, hSS⟩ := hpost
  rw [hSS]
  clear hSS S'
  show yW o (yx S 1) 5 [(0, .ref (o.G.ad (24))), (1, .int (a)), (2, .int (b))] [.int (1)]
  refine y_if_eq (x := 1) (pc' := 8) (tg := 9) hB dc_M_cut_5 rfl rfl (fun b3 => ?_) (fun b3 => ?_)
  · exact absurd b3 (by decide)
  · skip
    exact y_vret hB hE dc_M_cut_8 ⟨rfl, rfl⟩
set_option maxHeartbeats 4000000 in
set_option maxRecDepth 100000 in
theorem ct_M_number_row (l : Launch) (g : YG) (S : YS) (a : Int32) (h : ¬ zgr a) : yC l mn_M_number mb_M_number 3 none 5 g [.ref (g.ad (24)), .int (a)] S (fun v S' => v = none ∧ S' = yx S 1) := by
  refine yC_of (by decide) (Nat.le_of_ble_eq_true rfl) ?_
  intro o hl hg hB0 hE
  subst hl
  subst hg
  have hB : yB o mb_M_number "OrderBenchModel" := hB0
  have hm := hE.1
  show yW o (S) 0 [(0, .ref (o.G.ad (24))), (1, .int (a))] []
  refine y_aload_n (pc' := 1) hB dc_M_number_0 rfl rfl 0 rfl ?_
  refine y_iload_n (pc' := 2) hB dc_M_number_1 rfl rfl 1 rfl ?_
  refine y_callV (c := 24) (ci := 4) (As := [.int (a)]) (rest := []) (pc' := 5) hB hE (ct_M_noRowX o.l o.G (S) a h) mm_M_noRow q_672 q_674 qs_12 (by decide) rfl rfl dc_M_number_2 rfl (by decide) rfl rfl (Nat.le_of_ble_eq_true rfl) (fun v S' hpost => ?_)
  obtain ⟨rfl, hSS⟩ := hpost
  rw [hSS]
  clear hSS S'
  show yW o (yx S 1) 5 [(0, .ref (o.G.ad (24))), (1, .int (a))] [.int (1)]
  refine y_if_eq (x := 1) (pc' := 8) (tg := 9) hB dc_M_number_5 rfl rfl (fun b4 => ?_) (fun b4 => ?_)
  · exact absurd b4 (by decide)
  · skip
    exact y_vret hB hE dc_M_number_8 ⟨rfl, rfl⟩
set_option maxHeartbeats 4000000 in
set_option maxRecDepth 100000 in
theorem ct_M_sort_row (l : Launch) (g : YG) (S : YS) (a : Int32) (b : Int32) (c : Int32) (h : ¬ zgr a) : yC l mn_M_sort mb_M_sort 5 none 5 g [.ref (g.ad (24)), .int (a), .int (b), .int (c)] S (fun v S' => v = none ∧ S' = yx S 1) := by
  refine yC_of (by decide) (Nat.le_of_ble_eq_true rfl) ?_
  intro o hl hg hB0 hE
  subst hl
  subst hg
  have hB : yB o mb_M_sort "OrderBenchModel" := hB0
  have hm := hE.1
  show yW o (S) 0 [(0, .ref (o.G.ad (24))), (1, .int (a)), (2, .int (b)), (3, .int (c))] []
  refine y_aload_n (pc' := 1) hB dc_M_sort_0 rfl rfl 0 rfl ?_
  refine y_iload_n (pc' := 2) hB dc_M_sort_1 rfl rfl 1 rfl ?_
  refine y_callV (c := 24) (ci := 4) (As := [.int (a)]) (rest := []) (pc' := 5) hB hE (ct_M_noRowX o.l o.G (S) a h) mm_M_noRow q_672 q_674 qs_12 (by decide) rfl rfl dc_M_sort_2 rfl (by decide) rfl rfl (Nat.le_of_ble_eq_true rfl) (fun v S' hpost => ?_)
  obtain ⟨rfl, hSS⟩ := hpost
  rw [hSS]
  clear hSS S'
  show yW o (yx S 1) 5 [(0, .ref (o.G.ad (24))), (1, .int (a)), (2, .int (b)), (3, .int (c))] [.int (1)]
  refine y_if_ne (x := 1) (pc' := 8) (tg := 16) hB dc_M_sort_5 rfl rfl (fun b5 => ?_) (fun b5 => ?_)
  · skip
    exact y_vret hB hE dc_M_sort_16 ⟨rfl, rfl⟩
  · exact absurd b5 (by decide)
set_option maxHeartbeats 4000000 in
set_option maxRecDepth 100000 in
theorem ct_M_sorted_row (l : Launch) (g : YG) (S : YS) (a : Int32) (b : Int32) (h : ¬ zgr a) : yC l mn_M_sorted mb_M_sorted 3 (some .boolean) 5 g [.ref (g.ad (24)), .int (a), .int (b)] S (fun v S' => v = some (.int (nI 0)) ∧ S' = yx S 1) := by
  refine yC_of (by decide) (Nat.le_of_ble_eq_true rfl) ?_
  intro o hl hg hB0 hE
  subst hl
  subst hg
  have hB : yB o mb_M_sorted "OrderBenchModel" := hB0
  have hm := hE.1
  show yW o (S) 0 [(0, .ref (o.G.ad (24))), (1, .int (a)), (2, .int (b))] []
  refine y_aload_n (pc' := 1) hB dc_M_sorted_0 rfl rfl 0 rfl ?_
  refine y_iload_n (pc' := 2) hB dc_M_sorted_1 rfl rfl 1 rfl ?_
  refine y_callV (c := 24) (ci := 4) (As := [.int (a)]) (rest := []) (pc' := 5) hB hE (ct_M_noRowX o.l o.G (S) a h) mm_M_noRow q_672 q_674 qs_12 (by decide) rfl rfl dc_M_sorted_2 rfl (by decide) rfl rfl (Nat.le_of_ble_eq_true rfl) (fun v S' hpost => ?_)
  obtain ⟨rfl, hSS⟩ := hpost
  rw [hSS]
  clear hSS S'
  show yW o (yx S 1) 5 [(0, .ref (o.G.ad (24))), (1, .int (a)), (2, .int (b))] [.int (1)]
  refine y_if_ne (x := 1) (pc' := 8) (tg := 29) hB dc_M_sorted_5 rfl rfl (fun b6 => ?_) (fun b6 => ?_)
  · skip
    refine y_iconst (v := nI 0) (pc' := 30) hB dc_M_sorted_29 rfl rfl ?_
    exact y_zret hB hE dc_M_sorted_30 (Or.inl rfl) ⟨rfl, rfl⟩
  · exact absurd b6 (by decide)
set_option maxHeartbeats 4000000 in
set_option maxRecDepth 100000 in
theorem ct_M_runs_row (l : Launch) (g : YG) (S : YS) (a : Int32) (b : Int32) (h : ¬ zgr a) : yC l mn_M_runs mb_M_runs 6 (some .int) 5 g [.ref (g.ad (24)), .int (a), .int (b)] S (fun v S' => v = some (.int (nI 0)) ∧ S' = yx S 1) := by
  refine yC_of (by decide) (Nat.le_of_ble_eq_true rfl) ?_
  intro o hl hg hB0 hE
  subst hl
  subst hg
  have hB : yB o mb_M_runs "OrderBenchModel" := hB0
  have hm := hE.1
  show yW o (S) 0 [(0, .ref (o.G.ad (24))), (1, .int (a)), (2, .int (b))] []
  refine y_aload_n (pc' := 1) hB dc_M_runs_0 rfl rfl 0 rfl ?_
  refine y_iload_n (pc' := 2) hB dc_M_runs_1 rfl rfl 1 rfl ?_
  refine y_callV (c := 24) (ci := 4) (As := [.int (a)]) (rest := []) (pc' := 5) hB hE (ct_M_noRowX o.l o.G (S) a h) mm_M_noRow q_672 q_674 qs_12 (by decide) rfl rfl dc_M_runs_2 rfl (by decide) rfl rfl (Nat.le_of_ble_eq_true rfl) (fun v S' hpost => ?_)
  obtain ⟨rfl, hSS⟩ := hpost
  rw [hSS]
  clear hSS S'
  show yW o (yx S 1) 5 [(0, .ref (o.G.ad (24))), (1, .int (a)), (2, .int (b))] [.int (1)]
  refine y_if_ne (x := 1) (pc' := 8) (tg := 16) hB dc_M_runs_5 rfl rfl (fun b7 => ?_) (fun b7 => ?_)
  · skip
    refine y_iconst (v := nI 0) (pc' := 17) hB dc_M_runs_16 rfl rfl ?_
    exact y_iret hB hE dc_M_runs_17 ⟨rfl, rfl⟩
  · exact absurd b7 (by decide)
set_option maxHeartbeats 4000000 in
set_option maxRecDepth 100000 in
theorem ct_M_inversions_row (l : Launch) (g : YG) (S : YS) (a : Int32) (b : Int32) (h : ¬ zgr a) : yC l mn_M_inversions mb_M_inversions 6 (some .int) 5 g [.ref (g.ad (24)), .int (a), .int (b)] S (fun v S' => v = some (.int (nI 0)) ∧ S' = yx S 1) := by
  refine yC_of (by decide) (Nat.le_of_ble_eq_true rfl) ?_
  intro o hl hg hB0 hE
  subst hl
  subst hg
  have hB : yB o mb_M_inversions "OrderBenchModel" := hB0
  have hm := hE.1
  show yW o (S) 0 [(0, .ref (o.G.ad (24))), (1, .int (a)), (2, .int (b))] []
  refine y_aload_n (pc' := 1) hB dc_M_inversions_0 rfl rfl 0 rfl ?_
  refine y_iload_n (pc' := 2) hB dc_M_inversions_1 rfl rfl 1 rfl ?_
  refine y_callV (c := 24) (ci := 4) (As := [.int (a)]) (rest := []) (pc' := 5) hB hE (ct_M_noRowX o.l o.G (S) a h) mm_M_noRow q_672 q_674 qs_12 (by decide) rfl rfl dc_M_inversions_2 rfl (by decide) rfl rfl (Nat.le_of_ble_eq_true rfl) (fun v S' hpost => ?_)
  obtain ⟨rfl, hSS⟩ := hpost
  rw [hSS]
  clear hSS S'
  show yW o (yx S 1) 5 [(0, .ref (o.G.ad (24))), (1, .int (a)), (2, .int (b))] [.int (1)]
  refine y_if_ne (x := 1) (pc' := 8) (tg := 16) hB dc_M_inversions_5 rfl rfl (fun b8 => ?_) (fun b8 => ?_)
  · skip
    refine y_iconst (v := nI 0) (pc' := 17) hB dc_M_inversions_16 rfl rfl ?_
    exact y_iret hB hE dc_M_inversions_17 ⟨rfl, rfl⟩
  · exact absurd b8 (by decide)
set_option maxHeartbeats 4000000 in
set_option maxRecDepth 100000 in
theorem ct_M_climb_row (l : Launch) (g : YG) (S : YS) (a : Int32) (b : Int32) (h : ¬ zgr a) : yC l mn_M_climb mb_M_climb 6 (some .int) 5 g [.ref (g.ad (24)), .int (a), .int (b)] S (fun v S' => v = some (.int (nI 0)) ∧ S' = yx S 1) := by
  refine yC_of (by decide) (Nat.le_of_ble_eq_true rfl) ?_
  intro o hl hg hB0 hE
  subst hl
  subst hg
  have hB : yB o mb_M_climb "OrderBenchModel" := hB0
  have hm := hE.1
  show yW o (S) 0 [(0, .ref (o.G.ad (24))), (1, .int (a)), (2, .int (b))] []
  refine y_aload_n (pc' := 1) hB dc_M_climb_0 rfl rfl 0 rfl ?_
  refine y_iload_n (pc' := 2) hB dc_M_climb_1 rfl rfl 1 rfl ?_
  refine y_callV (c := 24) (ci := 4) (As := [.int (a)]) (rest := []) (pc' := 5) hB hE (ct_M_noRowX o.l o.G (S) a h) mm_M_noRow q_672 q_674 qs_12 (by decide) rfl rfl dc_M_climb_2 rfl (by decide) rfl rfl (Nat.le_of_ble_eq_true rfl) (fun v S' hpost => ?_)
  obtain ⟨rfl, hSS⟩ := hpost
  rw [hSS]
  clear hSS S'
  show yW o (yx S 1) 5 [(0, .ref (o.G.ad (24))), (1, .int (a)), (2, .int (b))] [.int (1)]
  refine y_if_ne (x := 1) (pc' := 8) (tg := 16) hB dc_M_climb_5 rfl rfl (fun b9 => ?_) (fun b9 => ?_)
  · skip
    refine y_iconst (v := nI 0) (pc' := 17) hB dc_M_climb_16 rfl rfl ?_
    exact y_iret hB hE dc_M_climb_17 ⟨rfl, rfl⟩
  · exact absurd b9 (by decide)
set_option maxHeartbeats 4000000 in
set_option maxRecDepth 100000 in
theorem ct_M_find_row (l : Launch) (g : YG) (S : YS) (a : Int32) (b : Int32) (c : Int64) (d : Int32) (h : ¬ zgr a) : yC l mn_M_find mb_M_find 10 (some .int) 5 g [.ref (g.ad (24)), .int (a), .int (b), .long (c), .int (d)] S (fun v S' => v = some (.int (nI 0)) ∧ S' = yx S 1) := by
  refine yC_of (by decide) (Nat.le_of_ble_eq_true rfl) ?_
  intro o hl hg hB0 hE
  subst hl
  subst hg
  have hB : yB o mb_M_find "OrderBenchModel" := hB0
  have hm := hE.1
  show yW o (S) 0 [(0, .ref (o.G.ad (24))), (1, .int (a)), (2, .int (b)), (3, .long (c)), (5, .int (d))] []
  refine y_aload_n (pc' := 1) hB dc_M_find_0 rfl rfl 0 rfl ?_
  refine y_iload_n (pc' := 2) hB dc_M_find_1 rfl rfl 1 rfl ?_
  refine y_callV (c := 24) (ci := 4) (As := [.int (a)]) (rest := []) (pc' := 5) hB hE (ct_M_noRowX o.l o.G (S) a h) mm_M_noRow q_672 q_674 qs_12 (by decide) rfl rfl dc_M_find_2 rfl (by decide) rfl rfl (Nat.le_of_ble_eq_true rfl) (fun v S' hpost => ?_)
  obtain ⟨rfl, hSS⟩ := hpost
  rw [hSS]
  clear hSS S'
  show yW o (yx S 1) 5 [(0, .ref (o.G.ad (24))), (1, .int (a)), (2, .int (b)), (3, .long (c)), (5, .int (d))] [.int (1)]
  refine y_if_ne (x := 1) (pc' := 8) (tg := 16) hB dc_M_find_5 rfl rfl (fun b10 => ?_) (fun b10 => ?_)
  · skip
    refine y_iconst (v := nI 0) (pc' := 17) hB dc_M_find_16 rfl rfl ?_
    exact y_iret hB hE dc_M_find_17 ⟨rfl, rfl⟩
  · exact absurd b10 (by decide)
set_option maxHeartbeats 4000000 in
set_option maxRecDepth 100000 in
theorem ct_M_merge_row (l : Launch) (g : YG) (S : YS) (a : Int32) (b : Int32) (c : Int32) (d : Int32) (h : ¬ zgr a) : yC l mn_M_merge mb_M_merge 5 (some .int) 5 g [.ref (g.ad (24)), .int (a), .int (b), .int (c), .int (d)] S (fun v S' => v = some (.int (nI 0)) ∧ S' = yx S 1) := by
  refine yC_of (by decide) (Nat.le_of_ble_eq_true rfl) ?_
  intro o hl hg hB0 hE
  subst hl
  subst hg
  have hB : yB o mb_M_merge "OrderBenchModel" := hB0
  have hm := hE.1
  show yW o (S) 0 [(0, .ref (o.G.ad (24))), (1, .int (a)), (2, .int (b)), (3, .int (c)), (4, .int (d))] []
  refine y_aload_n (pc' := 1) hB dc_M_merge_0 rfl rfl 0 rfl ?_
  refine y_iload_n (pc' := 2) hB dc_M_merge_1 rfl rfl 1 rfl ?_
  refine y_callV (c := 24) (ci := 4) (As := [.int (a)]) (rest := []) (pc' := 5) hB hE (ct_M_noRowX o.l o.G (S) a h) mm_M_noRow q_672 q_674 qs_12 (by decide) rfl rfl dc_M_merge_2 rfl (by decide) rfl rfl (Nat.le_of_ble_eq_true rfl) (fun v S' hpost => ?_)
  obtain ⟨rfl, hSS⟩ := hpost
  rw [hSS]
  clear hSS S'
  show yW o (yx S 1) 5 [(0, .ref (o.G.ad (24))), (1, .int (a)), (2, .int (b)), (3, .int (c)), (4, .int (d))] [.int (1)]
  refine y_if_ne (x := 1) (pc' := 8) (tg := 33) hB dc_M_merge_5 rfl rfl (fun b11 => ?_) (fun b11 => ?_)
  · skip
    refine y_iconst (v := nI 0) (pc' := 34) hB dc_M_merge_33 rfl rfl ?_
    exact y_iret hB hE dc_M_merge_34 ⟨rfl, rfl⟩
  · exact absurd b11 (by decide)
set_option maxHeartbeats 4000000 in
set_option maxRecDepth 100000 in
theorem ct_M_single_row (l : Launch) (g : YG) (S : YS) (a : Int32) (b : Int32) (h : ¬ zgr a) : yC l mn_M_single mb_M_single 6 (some .int) 5 g [.ref (g.ad (24)), .int (a), .int (b)] S (fun v S' => v = some (.int (nI 0)) ∧ S' = yx S 1) := by
  refine yC_of (by decide) (Nat.le_of_ble_eq_true rfl) ?_
  intro o hl hg hB0 hE
  subst hl
  subst hg
  have hB : yB o mb_M_single "OrderBenchModel" := hB0
  have hm := hE.1
  show yW o (S) 0 [(0, .ref (o.G.ad (24))), (1, .int (a)), (2, .int (b))] []
  refine y_aload_n (pc' := 1) hB dc_M_single_0 rfl rfl 0 rfl ?_
  refine y_iload_n (pc' := 2) hB dc_M_single_1 rfl rfl 1 rfl ?_
  refine y_callV (c := 24) (ci := 4) (As := [.int (a)]) (rest := []) (pc' := 5) hB hE (ct_M_noRowX o.l o.G (S) a h) mm_M_noRow q_672 q_674 qs_12 (by decide) rfl rfl dc_M_single_2 rfl (by decide) rfl rfl (Nat.le_of_ble_eq_true rfl) (fun v S' hpost => ?_)
  obtain ⟨rfl, hSS⟩ := hpost
  rw [hSS]
  clear hSS S'
  show yW o (yx S 1) 5 [(0, .ref (o.G.ad (24))), (1, .int (a)), (2, .int (b))] [.int (1)]
  refine y_if_ne (x := 1) (pc' := 8) (tg := 16) hB dc_M_single_5 rfl rfl (fun b12 => ?_) (fun b12 => ?_)
  · skip
    refine y_iconst (v := nI 0) (pc' := 17) hB dc_M_single_16 rfl rfl ?_
    exact y_iret hB hE dc_M_single_17 ⟨rfl, rfl⟩
  · exact absurd b12 (by decide)
set_option maxHeartbeats 4000000 in
set_option maxRecDepth 100000 in
theorem ct_M_front_row (l : Launch) (g : YG) (S : YS) (a : Int32) (b : Int32) (c : Int32) (h : ¬ zgr a) : yC l mn_M_front mb_M_front 8 none 5 g [.ref (g.ad (24)), .int (a), .int (b), .int (c)] S (fun v S' => v = none ∧ S' = yx S 1) := by
  refine yC_of (by decide) (Nat.le_of_ble_eq_true rfl) ?_
  intro o hl hg hB0 hE
  subst hl
  subst hg
  have hB : yB o mb_M_front "OrderBenchModel" := hB0
  have hm := hE.1
  show yW o (S) 0 [(0, .ref (o.G.ad (24))), (1, .int (a)), (2, .int (b)), (3, .int (c))] []
  refine y_aload_n (pc' := 1) hB dc_M_front_0 rfl rfl 0 rfl ?_
  refine y_iload_n (pc' := 2) hB dc_M_front_1 rfl rfl 1 rfl ?_
  refine y_callV (c := 24) (ci := 4) (As := [.int (a)]) (rest := []) (pc' := 5) hB hE (ct_M_noRowX o.l o.G (S) a h) mm_M_noRow q_672 q_674 qs_12 (by decide) rfl rfl dc_M_front_2 rfl (by decide) rfl rfl (Nat.le_of_ble_eq_true rfl) (fun v S' hpost => ?_)
  obtain ⟨rfl, hSS⟩ := hpost
  rw [hSS]
  clear hSS S'
  show yW o (yx S 1) 5 [(0, .ref (o.G.ad (24))), (1, .int (a)), (2, .int (b)), (3, .int (c))] [.int (1)]
  refine y_if_ne (x := 1) (pc' := 8) (tg := 16) hB dc_M_front_5 rfl rfl (fun b13 => ?_) (fun b13 => ?_)
  · skip
    exact y_vret hB hE dc_M_front_16 ⟨rfl, rfl⟩
  · exact absurd b13 (by decide)
set_option maxHeartbeats 4000000 in
set_option maxRecDepth 100000 in
theorem ct_M_mark_row (l : Launch) (g : YG) (S : YS) (a : Int32) (h : ¬ zgr a) : yC l mn_M_mark mb_M_mark 5 (some .long) 5 g [.ref (g.ad (24)), .int (a)] S (fun v S' => v = some (.long 0) ∧ S' = yx S 1) := by
  refine yC_of (by decide) (Nat.le_of_ble_eq_true rfl) ?_
  intro o hl hg hB0 hE
  subst hl
  subst hg
  have hB : yB o mb_M_mark "OrderBenchModel" := hB0
  have hm := hE.1
  show yW o (S) 0 [(0, .ref (o.G.ad (24))), (1, .int (a))] []
  refine y_aload_n (pc' := 1) hB dc_M_mark_0 rfl rfl 0 rfl ?_
  refine y_iload_n (pc' := 2) hB dc_M_mark_1 rfl rfl 1 rfl ?_
  refine y_callV (c := 24) (ci := 4) (As := [.int (a)]) (rest := []) (pc' := 5) hB hE (ct_M_noRowX o.l o.G (S) a h) mm_M_noRow q_672 q_674 qs_12 (by decide) rfl rfl dc_M_mark_2 rfl (by decide) rfl rfl (Nat.le_of_ble_eq_true rfl) (fun v S' hpost => ?_)
  obtain ⟨rfl, hSS⟩ := hpost
  rw [hSS]
  clear hSS S'
  show yW o (yx S 1) 5 [(0, .ref (o.G.ad (24))), (1, .int (a))] [.int (1)]
  refine y_if_eq (x := 1) (pc' := 8) (tg := 10) hB dc_M_mark_5 rfl rfl (fun b14 => ?_) (fun b14 => ?_)
  · exact absurd b14 (by decide)
  · skip
    refine y_lconst (v := 0) (pc' := 9) hB dc_M_mark_8 rfl rfl ?_
    exact y_lret hB hE dc_M_mark_9 ⟨rfl, rfl⟩
set_option maxHeartbeats 4000000 in
set_option maxRecDepth 100000 in
theorem ct_M_swap_row (l : Launch) (g : YG) (S : YS) (a : Int32) (b : Int32) (c : Int32) (h : ¬ zgr a) : yC l mn_M_swap mb_M_swap 9 none 5 g [.ref (g.ad (24)), .int (a), .int (b), .int (c)] S (fun v S' => v = none ∧ S' = yx S 1) := by
  refine yC_of (by decide) (Nat.le_of_ble_eq_true rfl) ?_
  intro o hl hg hB0 hE
  subst hl
  subst hg
  have hB : yB o mb_M_swap "OrderBenchModel" := hB0
  have hm := hE.1
  show yW o (S) 0 [(0, .ref (o.G.ad (24))), (1, .int (a)), (2, .int (b)), (3, .int (c))] []
  refine y_aload_n (pc' := 1) hB dc_M_swap_0 rfl rfl 0 rfl ?_
  refine y_iload_n (pc' := 2) hB dc_M_swap_1 rfl rfl 1 rfl ?_
  refine y_iload_n (pc' := 3) hB dc_M_swap_2 rfl rfl 2 rfl ?_
  refine y_callV (c := 24) (ci := 4) (As := [.int (a), .int (b)]) (rest := []) (pc' := 6) hB hE (ct_M_noEntryR o.l o.G (S) a b h) mm_M_noEntry q_692 q_694 qs_13 (by decide) rfl rfl dc_M_swap_3 rfl (by decide) rfl rfl (Nat.le_of_ble_eq_true rfl) (fun v S' hpost => ?_)
  obtain ⟨rfl, hSS⟩ := hpost
  rw [hSS]
  clear hSS S'
  show yW o (yx S 1) 6 [(0, .ref (o.G.ad (24))), (1, .int (a)), (2, .int (b)), (3, .int (c))] [.int (1)]
  refine y_if_ne (x := 1) (pc' := 9) (tg := 18) hB dc_M_swap_6 rfl rfl (fun b15 => ?_) (fun b15 => ?_)
  · skip
    exact y_vret hB hE dc_M_swap_18 ⟨rfl, rfl⟩
  · exact absurd b15 (by decide)
set_option maxHeartbeats 4000000 in
set_option maxRecDepth 100000 in
theorem ct_M_key_row (l : Launch) (g : YG) (S : YS) (a : Int32) (b : Int32) (h : ¬ zgr a) : yC l mn_M_key mb_M_key 3 (some .long) 5 g [.ref (g.ad (24)), .int (a), .int (b)] S (fun v S' => v = some (.long 0) ∧ S' = yx S 1) := by
  refine yC_of (by decide) (Nat.le_of_ble_eq_true rfl) ?_
  intro o hl hg hB0 hE
  subst hl
  subst hg
  have hB : yB o mb_M_key "OrderBenchModel" := hB0
  have hm := hE.1
  show yW o (S) 0 [(0, .ref (o.G.ad (24))), (1, .int (a)), (2, .int (b))] []
  refine y_aload_n (pc' := 1) hB dc_M_key_0 rfl rfl 0 rfl ?_
  refine y_iload_n (pc' := 2) hB dc_M_key_1 rfl rfl 1 rfl ?_
  refine y_iload_n (pc' := 3) hB dc_M_key_2 rfl rfl 2 rfl ?_
  refine y_callV (c := 24) (ci := 4) (As := [.int (a), .int (b)]) (rest := []) (pc' := 6) hB hE (ct_M_noEntryR o.l o.G (S) a b h) mm_M_noEntry q_692 q_694 qs_13 (by decide) rfl rfl dc_M_key_3 rfl (by decide) rfl rfl (Nat.le_of_ble_eq_true rfl) (fun v S' hpost => ?_)
  obtain ⟨rfl, hSS⟩ := hpost
  rw [hSS]
  clear hSS S'
  show yW o (yx S 1) 6 [(0, .ref (o.G.ad (24))), (1, .int (a)), (2, .int (b))] [.int (1)]
  refine y_if_eq (x := 1) (pc' := 9) (tg := 13) hB dc_M_key_6 rfl rfl (fun b16 => ?_) (fun b16 => ?_)
  · exact absurd b16 (by decide)
  · skip
    refine y_lconst (v := 0) (pc' := 10) hB dc_M_key_9 rfl rfl ?_
    refine y_goto (tg := 25) hB dc_M_key_10 rfl ?_
    exact y_lret hB hE dc_M_key_25 ⟨rfl, rfl⟩
set_option maxHeartbeats 4000000 in
set_option maxRecDepth 100000 in
theorem ct_M_tag_row (l : Launch) (g : YG) (S : YS) (a : Int32) (b : Int32) (h : ¬ zgr a) : yC l mn_M_tag mb_M_tag 3 (some .int) 5 g [.ref (g.ad (24)), .int (a), .int (b)] S (fun v S' => v = some (.int (nI 0)) ∧ S' = yx S 1) := by
  refine yC_of (by decide) (Nat.le_of_ble_eq_true rfl) ?_
  intro o hl hg hB0 hE
  subst hl
  subst hg
  have hB : yB o mb_M_tag "OrderBenchModel" := hB0
  have hm := hE.1
  show yW o (S) 0 [(0, .ref (o.G.ad (24))), (1, .int (a)), (2, .int (b))] []
  refine y_aload_n (pc' := 1) hB dc_M_tag_0 rfl rfl 0 rfl ?_
  refine y_iload_n (pc' := 2) hB dc_M_tag_1 rfl rfl 1 rfl ?_
  refine y_iload_n (pc' := 3) hB dc_M_tag_2 rfl rfl 2 rfl ?_
  refine y_callV (c := 24) (ci := 4) (As := [.int (a), .int (b)]) (rest := []) (pc' := 6) hB hE (ct_M_noEntryR o.l o.G (S) a b h) mm_M_noEntry q_692 q_694 qs_13 (by decide) rfl rfl dc_M_tag_3 rfl (by decide) rfl rfl (Nat.le_of_ble_eq_true rfl) (fun v S' hpost => ?_)
  obtain ⟨rfl, hSS⟩ := hpost
  rw [hSS]
  clear hSS S'
  show yW o (yx S 1) 6 [(0, .ref (o.G.ad (24))), (1, .int (a)), (2, .int (b))] [.int (1)]
  refine y_if_eq (x := 1) (pc' := 9) (tg := 13) hB dc_M_tag_6 rfl rfl (fun b17 => ?_) (fun b17 => ?_)
  · exact absurd b17 (by decide)
  · skip
    refine y_iconst (v := nI 0) (pc' := 10) hB dc_M_tag_9 rfl rfl ?_
    refine y_goto (tg := 25) hB dc_M_tag_10 rfl ?_
    exact y_iret hB hE dc_M_tag_25 ⟨rfl, rfl⟩
set_option maxHeartbeats 4000000 in
set_option maxRecDepth 100000 in
theorem ct_M_ranked_row (l : Launch) (g : YG) (S : YS) (a : Int32) (b : Int32) (c : Int32) (h : ¬ zgr a) : yC l mn_M_ranked mb_M_ranked 4 (some .int) 5 g [.ref (g.ad (24)), .int (a), .int (b), .int (c)] S (fun v S' => v = some (.int (nI 0)) ∧ S' = yx S 1) := by
  refine yC_of (by decide) (Nat.le_of_ble_eq_true rfl) ?_
  intro o hl hg hB0 hE
  subst hl
  subst hg
  have hB : yB o mb_M_ranked "OrderBenchModel" := hB0
  have hm := hE.1
  show yW o (S) 0 [(0, .ref (o.G.ad (24))), (1, .int (a)), (2, .int (b)), (3, .int (c))] []
  refine y_aload_n (pc' := 1) hB dc_M_ranked_0 rfl rfl 0 rfl ?_
  refine y_iload_n (pc' := 2) hB dc_M_ranked_1 rfl rfl 1 rfl ?_
  refine y_iload_n (pc' := 3) hB dc_M_ranked_2 rfl rfl 3 rfl ?_
  refine y_callV (c := 24) (ci := 4) (As := [.int (a), .int (c)]) (rest := []) (pc' := 6) hB hE (ct_M_noEntryR o.l o.G (S) a c h) mm_M_noEntry q_692 q_694 qs_13 (by decide) rfl rfl dc_M_ranked_3 rfl (by decide) rfl rfl (Nat.le_of_ble_eq_true rfl) (fun v S' hpost => ?_)
  obtain ⟨rfl, hSS⟩ := hpost
  rw [hSS]
  clear hSS S'
  show yW o (yx S 1) 6 [(0, .ref (o.G.ad (24))), (1, .int (a)), (2, .int (b)), (3, .int (c))] [.int (1)]
  refine y_if_ne (x := 1) (pc' := 9) (tg := 17) hB dc_M_ranked_6 rfl rfl (fun b18 => ?_) (fun b18 => ?_)
  · skip
    refine y_iconst (v := nI 0) (pc' := 18) hB dc_M_ranked_17 rfl rfl ?_
    exact y_iret hB hE dc_M_ranked_18 ⟨rfl, rfl⟩
  · exact absurd b18 (by decide)
set_option maxHeartbeats 4000000 in
set_option maxRecDepth 100000 in
theorem ct_M_swap_i (l : Launch) (g : YG) (S : YS) (k n : Nat) (hk : k < 4) (hn : n ≤ 1024) (hc : gI S 27 k = nI n) (b : Int32) (c : Int32) (h : ¬ zgE n b) : yC l mn_M_swap mb_M_swap 9 none 5 g [.ref (g.ad (24)), .int (nI (k)), .int (b), .int (c)] S (fun v S' => v = none ∧ S' = yx S 1) := by
  refine yC_of (by decide) (Nat.le_of_ble_eq_true rfl) ?_
  intro o hl hg hB0 hE
  subst hl
  subst hg
  have hB : yB o mb_M_swap "OrderBenchModel" := hB0
  have hm := hE.1
  show yW o (S) 0 [(0, .ref (o.G.ad (24))), (1, .int (nI (k))), (2, .int (b)), (3, .int (c))] []
  refine y_aload_n (pc' := 1) hB dc_M_swap_0 rfl rfl 0 rfl ?_
  refine y_iload_n (pc' := 2) hB dc_M_swap_1 rfl rfl 1 rfl ?_
  refine y_iload_n (pc' := 3) hB dc_M_swap_2 rfl rfl 2 rfl ?_
  refine y_callV (c := 24) (ci := 4) (As := [.int (nI (k)), .int (b)]) (rest := []) (pc' := 6) hB hE (ct_M_noEntryX o.l o.G (S) k n hk hn hc b h) mm_M_noEntry q_692 q_694 qs_13 (by decide) rfl rfl dc_M_swap_3 rfl (by decide) rfl rfl (Nat.le_of_ble_eq_true rfl) (fun v S' hpost => ?_)
  obtain ⟨rfl, hSS⟩ := hpost
  rw [hSS]
  clear hSS S'
  show yW o (yx S 1) 6 [(0, .ref (o.G.ad (24))), (1, .int (nI (k))), (2, .int (b)), (3, .int (c))] [.int (1)]
  refine y_if_ne (x := 1) (pc' := 9) (tg := 18) hB dc_M_swap_6 rfl rfl (fun b19 => ?_) (fun b19 => ?_)
  · skip
    exact y_vret hB hE dc_M_swap_18 ⟨rfl, rfl⟩
  · exact absurd b19 (by decide)
set_option maxHeartbeats 4000000 in
set_option maxRecDepth 100000 in
theorem ct_M_key_i (l : Launch) (g : YG) (S : YS) (k n : Nat) (hk : k < 4) (hn : n ≤ 1024) (hc : gI S 27 k = nI n) (b : Int32) (h : ¬ zgE n b) : yC l mn_M_key mb_M_key 3 (some .long) 5 g [.ref (g.ad (24)), .int (nI (k)), .int (b)] S (fun v S' => v = some (.long 0) ∧ S' = yx S 1) := by
  refine yC_of (by decide) (Nat.le_of_ble_eq_true rfl) ?_
  intro o hl hg hB0 hE
  subst hl
  subst hg
  have hB : yB o mb_M_key "OrderBenchModel" := hB0
  have hm := hE.1
  show yW o (S) 0 [(0, .ref (o.G.ad (24))), (1, .int (nI (k))), (2, .int (b))] []
  refine y_aload_n (pc' := 1) hB dc_M_key_0 rfl rfl 0 rfl ?_
  refine y_iload_n (pc' := 2) hB dc_M_key_1 rfl rfl 1 rfl ?_
  refine y_iload_n (pc' := 3) hB dc_M_key_2 rfl rfl 2 rfl ?_
  refine y_callV (c := 24) (ci := 4) (As := [.int (nI (k)), .int (b)]) (rest := []) (pc' := 6) hB hE (ct_M_noEntryX o.l o.G (S) k n hk hn hc b h) mm_M_noEntry q_692 q_694 qs_13 (by decide) rfl rfl dc_M_key_3 rfl (by decide) rfl rfl (Nat.le_of_ble_eq_true rfl) (fun v S' hpost => ?_)
  obtain ⟨rfl, hSS⟩ := hpost
  rw [hSS]
  clear hSS S'
  show yW o (yx S 1) 6 [(0, .ref (o.G.ad (24))), (1, .int (nI (k))), (2, .int (b))] [.int (1)]
  refine y_if_eq (x := 1) (pc' := 9) (tg := 13) hB dc_M_key_6 rfl rfl (fun b20 => ?_) (fun b20 => ?_)
  · exact absurd b20 (by decide)
  · skip
    refine y_lconst (v := 0) (pc' := 10) hB dc_M_key_9 rfl rfl ?_
    refine y_goto (tg := 25) hB dc_M_key_10 rfl ?_
    exact y_lret hB hE dc_M_key_25 ⟨rfl, rfl⟩
set_option maxHeartbeats 4000000 in
set_option maxRecDepth 100000 in
theorem ct_M_tag_i (l : Launch) (g : YG) (S : YS) (k n : Nat) (hk : k < 4) (hn : n ≤ 1024) (hc : gI S 27 k = nI n) (b : Int32) (h : ¬ zgE n b) : yC l mn_M_tag mb_M_tag 3 (some .int) 5 g [.ref (g.ad (24)), .int (nI (k)), .int (b)] S (fun v S' => v = some (.int (nI 0)) ∧ S' = yx S 1) := by
  refine yC_of (by decide) (Nat.le_of_ble_eq_true rfl) ?_
  intro o hl hg hB0 hE
  subst hl
  subst hg
  have hB : yB o mb_M_tag "OrderBenchModel" := hB0
  have hm := hE.1
  show yW o (S) 0 [(0, .ref (o.G.ad (24))), (1, .int (nI (k))), (2, .int (b))] []
  refine y_aload_n (pc' := 1) hB dc_M_tag_0 rfl rfl 0 rfl ?_
  refine y_iload_n (pc' := 2) hB dc_M_tag_1 rfl rfl 1 rfl ?_
  refine y_iload_n (pc' := 3) hB dc_M_tag_2 rfl rfl 2 rfl ?_
  refine y_callV (c := 24) (ci := 4) (As := [.int (nI (k)), .int (b)]) (rest := []) (pc' := 6) hB hE (ct_M_noEntryX o.l o.G (S) k n hk hn hc b h) mm_M_noEntry q_692 q_694 qs_13 (by decide) rfl rfl dc_M_tag_3 rfl (by decide) rfl rfl (Nat.le_of_ble_eq_true rfl) (fun v S' hpost => ?_)
  obtain ⟨rfl, hSS⟩ := hpost
  rw [hSS]
  clear hSS S'
  show yW o (yx S 1) 6 [(0, .ref (o.G.ad (24))), (1, .int (nI (k))), (2, .int (b))] [.int (1)]
  refine y_if_eq (x := 1) (pc' := 9) (tg := 13) hB dc_M_tag_6 rfl rfl (fun b21 => ?_) (fun b21 => ?_)
  · exact absurd b21 (by decide)
  · skip
    refine y_iconst (v := nI 0) (pc' := 10) hB dc_M_tag_9 rfl rfl ?_
    refine y_goto (tg := 25) hB dc_M_tag_10 rfl ?_
    exact y_iret hB hE dc_M_tag_25 ⟨rfl, rfl⟩
set_option maxHeartbeats 4000000 in
set_option maxRecDepth 100000 in
theorem ct_M_swap_j (l : Launch) (g : YG) (S : YS) (k n : Nat) (hk : k < 4) (hn : n ≤ 1024) (hc : gI S 27 k = nI n) (i : Nat) (hi : i < n) (c : Int32) (h : ¬ zgE n c) : yC l mn_M_swap mb_M_swap 9 none 5 g [.ref (g.ad (24)), .int (nI (k)), .int (nI (i)), .int (c)] S (fun v S' => v = none ∧ S' = yx S 1) := by
  refine yC_of (by decide) (Nat.le_of_ble_eq_true rfl) ?_
  intro o hl hg hB0 hE
  subst hl
  subst hg
  have hB : yB o mb_M_swap "OrderBenchModel" := hB0
  have hm := hE.1
  show yW o (S) 0 [(0, .ref (o.G.ad (24))), (1, .int (nI (k))), (2, .int (nI (i))), (3, .int (c))] []
  refine y_aload_n (pc' := 1) hB dc_M_swap_0 rfl rfl 0 rfl ?_
  refine y_iload_n (pc' := 2) hB dc_M_swap_1 rfl rfl 1 rfl ?_
  refine y_iload_n (pc' := 3) hB dc_M_swap_2 rfl rfl 2 rfl ?_
  refine y_callV (c := 24) (ci := 4) (As := [.int (nI (k)), .int (nI (i))]) (rest := []) (pc' := 6) hB hE (ct_M_noEntry o.l o.G (S) k n hk hn hc i hi) mm_M_noEntry q_692 q_694 qs_13 (by decide) rfl rfl dc_M_swap_3 rfl (by decide) rfl rfl (Nat.le_of_ble_eq_true rfl) (fun v S' hpost => ?_)
  obtain ⟨rfl, hSS⟩ := hpost
  rw [hSS]
  clear hSS S'
  show yW o (yx S 0) 6 [(0, .ref (o.G.ad (24))), (1, .int (nI (k))), (2, .int (nI (i))), (3, .int (c))] [.int (0)]
  refine y_if_ne (x := 0) (pc' := 9) (tg := 18) hB dc_M_swap_6 rfl rfl (fun b22 => ?_) (fun b22 => ?_)
  · exact absurd rfl b22
  · skip
    refine y_aload_n (pc' := 10) hB dc_M_swap_9 rfl rfl 0 rfl ?_
    refine y_iload_n (pc' := 11) hB dc_M_swap_10 rfl rfl 1 rfl ?_
    refine y_iload_n (pc' := 12) hB dc_M_swap_11 rfl rfl 3 rfl ?_
    refine y_callV (c := 24) (ci := 4) (As := [.int (nI (k)), .int (c)]) (rest := []) (pc' := 15) hB hE (ct_M_noEntryX o.l o.G (yx S 0) k n hk hn hc c h) mm_M_noEntry q_692 q_694 qs_13 (by decide) rfl rfl dc_M_swap_12 rfl (by decide) rfl rfl (Nat.le_of_ble_eq_true rfl) (fun v S' hpost => ?_)
    obtain ⟨rfl, hSS⟩ := hpost
    rw [hSS]
    clear hSS S'
    show yW o (yx (yx S 0) 1) 15 [(0, .ref (o.G.ad (24))), (1, .int (nI (k))), (2, .int (nI (i))), (3, .int (c))] [.int (1)]
    rw [yx_yx]
    refine y_if_eq (x := 1) (pc' := 18) (tg := 19) hB dc_M_swap_15 rfl rfl (fun b23 => ?_) (fun b23 => ?_)
    · exact absurd b23 (by decide)
    · skip
      exact y_vret hB hE dc_M_swap_18 ⟨rfl, rfl⟩
set_option maxHeartbeats 4000000 in
set_option maxRecDepth 100000 in
theorem ct_M_ranked_i (l : Launch) (g : YG) (S : YS) (k n : Nat) (hk : k < 4) (hn : n ≤ 1024) (hc : gI S 27 k = nI n) (b : Int32) (c : Int32) (h : ¬ zgE n c) : yC l mn_M_ranked mb_M_ranked 4 (some .int) 5 g [.ref (g.ad (24)), .int (nI (k)), .int (b), .int (c)] S (fun v S' => v = some (.int (nI 0)) ∧ S' = yx S 1) := by
  refine yC_of (by decide) (Nat.le_of_ble_eq_true rfl) ?_
  intro o hl hg hB0 hE
  subst hl
  subst hg
  have hB : yB o mb_M_ranked "OrderBenchModel" := hB0
  have hm := hE.1
  show yW o (S) 0 [(0, .ref (o.G.ad (24))), (1, .int (nI (k))), (2, .int (b)), (3, .int (c))] []
  refine y_aload_n (pc' := 1) hB dc_M_ranked_0 rfl rfl 0 rfl ?_
  refine y_iload_n (pc' := 2) hB dc_M_ranked_1 rfl rfl 1 rfl ?_
  refine y_iload_n (pc' := 3) hB dc_M_ranked_2 rfl rfl 3 rfl ?_
  refine y_callV (c := 24) (ci := 4) (As := [.int (nI (k)), .int (c)]) (rest := []) (pc' := 6) hB hE (ct_M_noEntryX o.l o.G (S) k n hk hn hc c h) mm_M_noEntry q_692 q_694 qs_13 (by decide) rfl rfl dc_M_ranked_3 rfl (by decide) rfl rfl (Nat.le_of_ble_eq_true rfl) (fun v S' hpost => ?_)
  obtain ⟨rfl, hSS⟩ := hpost
  rw [hSS]
  clear hSS S'
  show yW o (yx S 1) 6 [(0, .ref (o.G.ad (24))), (1, .int (nI (k))), (2, .int (b)), (3, .int (c))] [.int (1)]
  refine y_if_ne (x := 1) (pc' := 9) (tg := 17) hB dc_M_ranked_6 rfl rfl (fun b24 => ?_) (fun b24 => ?_)
  · skip
    refine y_iconst (v := nI 0) (pc' := 18) hB dc_M_ranked_17 rfl rfl ?_
    exact y_iret hB hE dc_M_ranked_18 ⟨rfl, rfl⟩
  · exact absurd b24 (by decide)
set_option maxHeartbeats 4000000 in
set_option maxRecDepth 100000 in
theorem ct_M_ranked_order (l : Launch) (g : YG) (S : YS) (k n : Nat) (hk : k < 4) (hn : n ≤ 1024) (hc : gI S 27 k = nI n) (b : Int32) (i : Nat) (hi : i < n) (h : ¬ zgo b) : yC l mn_M_ranked mb_M_ranked 4 (some .int) 5 g [.ref (g.ad (24)), .int (nI (k)), .int (b), .int (nI (i))] S (fun v S' => v = some (.int (nI 0)) ∧ S' = yx S 2) := by
  refine yC_of (by decide) (Nat.le_of_ble_eq_true rfl) ?_
  intro o hl hg hB0 hE
  subst hl
  subst hg
  have hB : yB o mb_M_ranked "OrderBenchModel" := hB0
  have hm := hE.1
  show yW o (S) 0 [(0, .ref (o.G.ad (24))), (1, .int (nI (k))), (2, .int (b)), (3, .int (nI (i)))] []
  refine y_aload_n (pc' := 1) hB dc_M_ranked_0 rfl rfl 0 rfl ?_
  refine y_iload_n (pc' := 2) hB dc_M_ranked_1 rfl rfl 1 rfl ?_
  refine y_iload_n (pc' := 3) hB dc_M_ranked_2 rfl rfl 3 rfl ?_
  refine y_callV (c := 24) (ci := 4) (As := [.int (nI (k)), .int (nI (i))]) (rest := []) (pc' := 6) hB hE (ct_M_noEntry o.l o.G (S) k n hk hn hc i hi) mm_M_noEntry q_692 q_694 qs_13 (by decide) rfl rfl dc_M_ranked_3 rfl (by decide) rfl rfl (Nat.le_of_ble_eq_true rfl) (fun v S' hpost => ?_)
  obtain ⟨rfl, hSS⟩ := hpost
  rw [hSS]
  clear hSS S'
  show yW o (yx S 0) 6 [(0, .ref (o.G.ad (24))), (1, .int (nI (k))), (2, .int (b)), (3, .int (nI (i)))] [.int (0)]
  refine y_if_ne (x := 0) (pc' := 9) (tg := 17) hB dc_M_ranked_6 rfl rfl (fun b25 => ?_) (fun b25 => ?_)
  · exact absurd rfl b25
  · skip
    refine y_aload_n (pc' := 10) hB dc_M_ranked_9 rfl rfl 0 rfl ?_
    refine y_iload_n (pc' := 11) hB dc_M_ranked_10 rfl rfl 2 rfl ?_
    refine y_callV (c := 24) (ci := 4) (As := [.int (b)]) (rest := []) (pc' := 14) hB hE (ct_M_noOrderX o.l o.G (yx S 0) b h) mm_M_noOrder q_720 q_722 qs_14 (by decide) rfl rfl dc_M_ranked_11 rfl (by decide) rfl rfl (Nat.le_of_ble_eq_true rfl) (fun v S' hpost => ?_)
    obtain ⟨rfl, hSS⟩ := hpost
    rw [hSS]
    clear hSS S'
    show yW o (yx (yx S 0) 2) 14 [(0, .ref (o.G.ad (24))), (1, .int (nI (k))), (2, .int (b)), (3, .int (nI (i)))] [.int (1)]
    rw [yx_yx]
    refine y_if_eq (x := 1) (pc' := 17) (tg := 19) hB dc_M_ranked_14 rfl rfl (fun b26 => ?_) (fun b26 => ?_)
    · exact absurd b26 (by decide)
    · skip
      refine y_iconst (v := nI 0) (pc' := 18) hB dc_M_ranked_17 rfl rfl ?_
      exact y_iret hB hE dc_M_ranked_18 ⟨rfl, rfl⟩
set_option maxHeartbeats 4000000 in
set_option maxRecDepth 100000 in
theorem ct_M_sorted_order (l : Launch) (g : YG) (S : YS) (k : Nat) (hk : k < 4) (b : Int32) (h : ¬ zgo b) : yC l mn_M_sorted mb_M_sorted 3 (some .boolean) 5 g [.ref (g.ad (24)), .int (nI (k)), .int (b)] S (fun v S' => v = some (.int (nI 0)) ∧ S' = yx S 2) := by
  refine yC_of (by decide) (Nat.le_of_ble_eq_true rfl) ?_
  intro o hl hg hB0 hE
  subst hl
  subst hg
  have hB : yB o mb_M_sorted "OrderBenchModel" := hB0
  have hm := hE.1
  show yW o (S) 0 [(0, .ref (o.G.ad (24))), (1, .int (nI (k))), (2, .int (b))] []
  refine y_aload_n (pc' := 1) hB dc_M_sorted_0 rfl rfl 0 rfl ?_
  refine y_iload_n (pc' := 2) hB dc_M_sorted_1 rfl rfl 1 rfl ?_
  refine y_callV (c := 24) (ci := 4) (As := [.int (nI (k))]) (rest := []) (pc' := 5) hB hE (ct_M_noRow o.l o.G (S) (nI k) (zgr_of hk)) mm_M_noRow q_672 q_674 qs_12 (by decide) rfl rfl dc_M_sorted_2 rfl (by decide) rfl rfl (Nat.le_of_ble_eq_true rfl) (fun v S' hpost => ?_)
  obtain ⟨rfl, hSS⟩ := hpost
  rw [hSS]
  clear hSS S'
  show yW o (yx S 0) 5 [(0, .ref (o.G.ad (24))), (1, .int (nI (k))), (2, .int (b))] [.int (0)]
  refine y_if_ne (x := 0) (pc' := 8) (tg := 29) hB dc_M_sorted_5 rfl rfl (fun b27 => ?_) (fun b27 => ?_)
  · exact absurd rfl b27
  · skip
    refine y_aload_n (pc' := 9) hB dc_M_sorted_8 rfl rfl 0 rfl ?_
    refine y_iload_n (pc' := 10) hB dc_M_sorted_9 rfl rfl 2 rfl ?_
    refine y_callV (c := 24) (ci := 4) (As := [.int (b)]) (rest := []) (pc' := 13) hB hE (ct_M_noOrderX o.l o.G (yx S 0) b h) mm_M_noOrder q_720 q_722 qs_14 (by decide) rfl rfl dc_M_sorted_10 rfl (by decide) rfl rfl (Nat.le_of_ble_eq_true rfl) (fun v S' hpost => ?_)
    obtain ⟨rfl, hSS⟩ := hpost
    rw [hSS]
    clear hSS S'
    show yW o (yx (yx S 0) 2) 13 [(0, .ref (o.G.ad (24))), (1, .int (nI (k))), (2, .int (b))] [.int (1)]
    rw [yx_yx]
    refine y_if_ne (x := 1) (pc' := 16) (tg := 29) hB dc_M_sorted_13 rfl rfl (fun b28 => ?_) (fun b28 => ?_)
    · skip
      refine y_iconst (v := nI 0) (pc' := 30) hB dc_M_sorted_29 rfl rfl ?_
      exact y_zret hB hE dc_M_sorted_30 (Or.inl rfl) ⟨rfl, rfl⟩
    · exact absurd b28 (by decide)
set_option maxHeartbeats 4000000 in
set_option maxRecDepth 100000 in
theorem ct_M_runs_order (l : Launch) (g : YG) (S : YS) (k : Nat) (hk : k < 4) (b : Int32) (h : ¬ zgo b) : yC l mn_M_runs mb_M_runs 6 (some .int) 5 g [.ref (g.ad (24)), .int (nI (k)), .int (b)] S (fun v S' => v = some (.int (nI 0)) ∧ S' = yx S 2) := by
  refine yC_of (by decide) (Nat.le_of_ble_eq_true rfl) ?_
  intro o hl hg hB0 hE
  subst hl
  subst hg
  have hB : yB o mb_M_runs "OrderBenchModel" := hB0
  have hm := hE.1
  show yW o (S) 0 [(0, .ref (o.G.ad (24))), (1, .int (nI (k))), (2, .int (b))] []
  refine y_aload_n (pc' := 1) hB dc_M_runs_0 rfl rfl 0 rfl ?_
  refine y_iload_n (pc' := 2) hB dc_M_runs_1 rfl rfl 1 rfl ?_
  refine y_callV (c := 24) (ci := 4) (As := [.int (nI (k))]) (rest := []) (pc' := 5) hB hE (ct_M_noRow o.l o.G (S) (nI k) (zgr_of hk)) mm_M_noRow q_672 q_674 qs_12 (by decide) rfl rfl dc_M_runs_2 rfl (by decide) rfl rfl (Nat.le_of_ble_eq_true rfl) (fun v S' hpost => ?_)
  obtain ⟨rfl, hSS⟩ := hpost
  rw [hSS]
  clear hSS S'
  show yW o (yx S 0) 5 [(0, .ref (o.G.ad (24))), (1, .int (nI (k))), (2, .int (b))] [.int (0)]
  refine y_if_ne (x := 0) (pc' := 8) (tg := 16) hB dc_M_runs_5 rfl rfl (fun b29 => ?_) (fun b29 => ?_)
  · exact absurd rfl b29
  · skip
    refine y_aload_n (pc' := 9) hB dc_M_runs_8 rfl rfl 0 rfl ?_
    refine y_iload_n (pc' := 10) hB dc_M_runs_9 rfl rfl 2 rfl ?_
    refine y_callV (c := 24) (ci := 4) (As := [.int (b)]) (rest := []) (pc' := 13) hB hE (ct_M_noOrderX o.l o.G (yx S 0) b h) mm_M_noOrder q_720 q_722 qs_14 (by decide) rfl rfl dc_M_runs_10 rfl (by decide) rfl rfl (Nat.le_of_ble_eq_true rfl) (fun v S' hpost => ?_)
    obtain ⟨rfl, hSS⟩ := hpost
    rw [hSS]
    clear hSS S'
    show yW o (yx (yx S 0) 2) 13 [(0, .ref (o.G.ad (24))), (1, .int (nI (k))), (2, .int (b))] [.int (1)]
    rw [yx_yx]
    refine y_if_eq (x := 1) (pc' := 16) (tg := 18) hB dc_M_runs_13 rfl rfl (fun b30 => ?_) (fun b30 => ?_)
    · exact absurd b30 (by decide)
    · skip
      refine y_iconst (v := nI 0) (pc' := 17) hB dc_M_runs_16 rfl rfl ?_
      exact y_iret hB hE dc_M_runs_17 ⟨rfl, rfl⟩
set_option maxHeartbeats 4000000 in
set_option maxRecDepth 100000 in
theorem ct_M_inversions_order (l : Launch) (g : YG) (S : YS) (k : Nat) (hk : k < 4) (b : Int32) (h : ¬ zgo b) : yC l mn_M_inversions mb_M_inversions 6 (some .int) 5 g [.ref (g.ad (24)), .int (nI (k)), .int (b)] S (fun v S' => v = some (.int (nI 0)) ∧ S' = yx S 2) := by
  refine yC_of (by decide) (Nat.le_of_ble_eq_true rfl) ?_
  intro o hl hg hB0 hE
  subst hl
  subst hg
  have hB : yB o mb_M_inversions "OrderBenchModel" := hB0
  have hm := hE.1
  show yW o (S) 0 [(0, .ref (o.G.ad (24))), (1, .int (nI (k))), (2, .int (b))] []
  refine y_aload_n (pc' := 1) hB dc_M_inversions_0 rfl rfl 0 rfl ?_
  refine y_iload_n (pc' := 2) hB dc_M_inversions_1 rfl rfl 1 rfl ?_
  refine y_callV (c := 24) (ci := 4) (As := [.int (nI (k))]) (rest := []) (pc' := 5) hB hE (ct_M_noRow o.l o.G (S) (nI k) (zgr_of hk)) mm_M_noRow q_672 q_674 qs_12 (by decide) rfl rfl dc_M_inversions_2 rfl (by decide) rfl rfl (Nat.le_of_ble_eq_true rfl) (fun v S' hpost => ?_)
  obtain ⟨rfl, hSS⟩ := hpost
  rw [hSS]
  clear hSS S'
  show yW o (yx S 0) 5 [(0, .ref (o.G.ad (24))), (1, .int (nI (k))), (2, .int (b))] [.int (0)]
  refine y_if_ne (x := 0) (pc' := 8) (tg := 16) hB dc_M_inversions_5 rfl rfl (fun b31 => ?_) (fun b31 => ?_)
  · exact absurd rfl b31
  · skip
    refine y_aload_n (pc' := 9) hB dc_M_inversions_8 rfl rfl 0 rfl ?_
    refine y_iload_n (pc' := 10) hB dc_M_inversions_9 rfl rfl 2 rfl ?_
    refine y_callV (c := 24) (ci := 4) (As := [.int (b)]) (rest := []) (pc' := 13) hB hE (ct_M_noOrderX o.l o.G (yx S 0) b h) mm_M_noOrder q_720 q_722 qs_14 (by decide) rfl rfl dc_M_inversions_10 rfl (by decide) rfl rfl (Nat.le_of_ble_eq_true rfl) (fun v S' hpost => ?_)
    obtain ⟨rfl, hSS⟩ := hpost
    rw [hSS]
    clear hSS S'
    show yW o (yx (yx S 0) 2) 13 [(0, .ref (o.G.ad (24))), (1, .int (nI (k))), (2, .int (b))] [.int (1)]
    rw [yx_yx]
    refine y_if_eq (x := 1) (pc' := 16) (tg := 18) hB dc_M_inversions_13 rfl rfl (fun b32 => ?_) (fun b32 => ?_)
    · exact absurd b32 (by decide)
    · skip
      refine y_iconst (v := nI 0) (pc' := 17) hB dc_M_inversions_16 rfl rfl ?_
      exact y_iret hB hE dc_M_inversions_17 ⟨rfl, rfl⟩
set_option maxHeartbeats 4000000 in
set_option maxRecDepth 100000 in
theorem ct_M_climb_order (l : Launch) (g : YG) (S : YS) (k : Nat) (hk : k < 4) (b : Int32) (h : ¬ zgo b) : yC l mn_M_climb mb_M_climb 6 (some .int) 5 g [.ref (g.ad (24)), .int (nI (k)), .int (b)] S (fun v S' => v = some (.int (nI 0)) ∧ S' = yx S 2) := by
  refine yC_of (by decide) (Nat.le_of_ble_eq_true rfl) ?_
  intro o hl hg hB0 hE
  subst hl
  subst hg
  have hB : yB o mb_M_climb "OrderBenchModel" := hB0
  have hm := hE.1
  show yW o (S) 0 [(0, .ref (o.G.ad (24))), (1, .int (nI (k))), (2, .int (b))] []
  refine y_aload_n (pc' := 1) hB dc_M_climb_0 rfl rfl 0 rfl ?_
  refine y_iload_n (pc' := 2) hB dc_M_climb_1 rfl rfl 1 rfl ?_
  refine y_callV (c := 24) (ci := 4) (As := [.int (nI (k))]) (rest := []) (pc' := 5) hB hE (ct_M_noRow o.l o.G (S) (nI k) (zgr_of hk)) mm_M_noRow q_672 q_674 qs_12 (by decide) rfl rfl dc_M_climb_2 rfl (by decide) rfl rfl (Nat.le_of_ble_eq_true rfl) (fun v S' hpost => ?_)
  obtain ⟨rfl, hSS⟩ := hpost
  rw [hSS]
  clear hSS S'
  show yW o (yx S 0) 5 [(0, .ref (o.G.ad (24))), (1, .int (nI (k))), (2, .int (b))] [.int (0)]
  refine y_if_ne (x := 0) (pc' := 8) (tg := 16) hB dc_M_climb_5 rfl rfl (fun b33 => ?_) (fun b33 => ?_)
  · exact absurd rfl b33
  · skip
    refine y_aload_n (pc' := 9) hB dc_M_climb_8 rfl rfl 0 rfl ?_
    refine y_iload_n (pc' := 10) hB dc_M_climb_9 rfl rfl 2 rfl ?_
    refine y_callV (c := 24) (ci := 4) (As := [.int (b)]) (rest := []) (pc' := 13) hB hE (ct_M_noOrderX o.l o.G (yx S 0) b h) mm_M_noOrder q_720 q_722 qs_14 (by decide) rfl rfl dc_M_climb_10 rfl (by decide) rfl rfl (Nat.le_of_ble_eq_true rfl) (fun v S' hpost => ?_)
    obtain ⟨rfl, hSS⟩ := hpost
    rw [hSS]
    clear hSS S'
    show yW o (yx (yx S 0) 2) 13 [(0, .ref (o.G.ad (24))), (1, .int (nI (k))), (2, .int (b))] [.int (1)]
    rw [yx_yx]
    refine y_if_eq (x := 1) (pc' := 16) (tg := 18) hB dc_M_climb_13 rfl rfl (fun b34 => ?_) (fun b34 => ?_)
    · exact absurd b34 (by decide)
    · skip
      refine y_iconst (v := nI 0) (pc' := 17) hB dc_M_climb_16 rfl rfl ?_
      exact y_iret hB hE dc_M_climb_17 ⟨rfl, rfl⟩
set_option maxHeartbeats 4000000 in
set_option maxRecDepth 100000 in
theorem ct_M_find_order (l : Launch) (g : YG) (S : YS) (k : Nat) (hk : k < 4) (b : Int32) (c : Int64) (d : Int32) (h : ¬ zgo b) : yC l mn_M_find mb_M_find 10 (some .int) 5 g [.ref (g.ad (24)), .int (nI (k)), .int (b), .long (c), .int (d)] S (fun v S' => v = some (.int (nI 0)) ∧ S' = yx S 2) := by
  refine yC_of (by decide) (Nat.le_of_ble_eq_true rfl) ?_
  intro o hl hg hB0 hE
  subst hl
  subst hg
  have hB : yB o mb_M_find "OrderBenchModel" := hB0
  have hm := hE.1
  show yW o (S) 0 [(0, .ref (o.G.ad (24))), (1, .int (nI (k))), (2, .int (b)), (3, .long (c)), (5, .int (d))] []
  refine y_aload_n (pc' := 1) hB dc_M_find_0 rfl rfl 0 rfl ?_
  refine y_iload_n (pc' := 2) hB dc_M_find_1 rfl rfl 1 rfl ?_
  refine y_callV (c := 24) (ci := 4) (As := [.int (nI (k))]) (rest := []) (pc' := 5) hB hE (ct_M_noRow o.l o.G (S) (nI k) (zgr_of hk)) mm_M_noRow q_672 q_674 qs_12 (by decide) rfl rfl dc_M_find_2 rfl (by decide) rfl rfl (Nat.le_of_ble_eq_true rfl) (fun v S' hpost => ?_)
  obtain ⟨rfl, hSS⟩ := hpost
  rw [hSS]
  clear hSS S'
  show yW o (yx S 0) 5 [(0, .ref (o.G.ad (24))), (1, .int (nI (k))), (2, .int (b)), (3, .long (c)), (5, .int (d))] [.int (0)]
  refine y_if_ne (x := 0) (pc' := 8) (tg := 16) hB dc_M_find_5 rfl rfl (fun b35 => ?_) (fun b35 => ?_)
  · exact absurd rfl b35
  · skip
    refine y_aload_n (pc' := 9) hB dc_M_find_8 rfl rfl 0 rfl ?_
    refine y_iload_n (pc' := 10) hB dc_M_find_9 rfl rfl 2 rfl ?_
    refine y_callV (c := 24) (ci := 4) (As := [.int (b)]) (rest := []) (pc' := 13) hB hE (ct_M_noOrderX o.l o.G (yx S 0) b h) mm_M_noOrder q_720 q_722 qs_14 (by decide) rfl rfl dc_M_find_10 rfl (by decide) rfl rfl (Nat.le_of_ble_eq_true rfl) (fun v S' hpost => ?_)
    obtain ⟨rfl, hSS⟩ := hpost
    rw [hSS]
    clear hSS S'
    show yW o (yx (yx S 0) 2) 13 [(0, .ref (o.G.ad (24))), (1, .int (nI (k))), (2, .int (b)), (3, .long (c)), (5, .int (d))] [.int (1)]
    rw [yx_yx]
    refine y_if_eq (x := 1) (pc' := 16) (tg := 18) hB dc_M_find_13 rfl rfl (fun b36 => ?_) (fun b36 => ?_)
    · exact absurd b36 (by decide)
    · skip
      refine y_iconst (v := nI 0) (pc' := 17) hB dc_M_find_16 rfl rfl ?_
      exact y_iret hB hE dc_M_find_17 ⟨rfl, rfl⟩
set_option maxHeartbeats 4000000 in
set_option maxRecDepth 100000 in
theorem ct_M_single_order (l : Launch) (g : YG) (S : YS) (k : Nat) (hk : k < 4) (b : Int32) (h : ¬ zgo b) : yC l mn_M_single mb_M_single 6 (some .int) 5 g [.ref (g.ad (24)), .int (nI (k)), .int (b)] S (fun v S' => v = some (.int (nI 0)) ∧ S' = yx S 2) := by
  refine yC_of (by decide) (Nat.le_of_ble_eq_true rfl) ?_
  intro o hl hg hB0 hE
  subst hl
  subst hg
  have hB : yB o mb_M_single "OrderBenchModel" := hB0
  have hm := hE.1
  show yW o (S) 0 [(0, .ref (o.G.ad (24))), (1, .int (nI (k))), (2, .int (b))] []
  refine y_aload_n (pc' := 1) hB dc_M_single_0 rfl rfl 0 rfl ?_
  refine y_iload_n (pc' := 2) hB dc_M_single_1 rfl rfl 1 rfl ?_
  refine y_callV (c := 24) (ci := 4) (As := [.int (nI (k))]) (rest := []) (pc' := 5) hB hE (ct_M_noRow o.l o.G (S) (nI k) (zgr_of hk)) mm_M_noRow q_672 q_674 qs_12 (by decide) rfl rfl dc_M_single_2 rfl (by decide) rfl rfl (Nat.le_of_ble_eq_true rfl) (fun v S' hpost => ?_)
  obtain ⟨rfl, hSS⟩ := hpost
  rw [hSS]
  clear hSS S'
  show yW o (yx S 0) 5 [(0, .ref (o.G.ad (24))), (1, .int (nI (k))), (2, .int (b))] [.int (0)]
  refine y_if_ne (x := 0) (pc' := 8) (tg := 16) hB dc_M_single_5 rfl rfl (fun b37 => ?_) (fun b37 => ?_)
  · exact absurd rfl b37
  · skip
    refine y_aload_n (pc' := 9) hB dc_M_single_8 rfl rfl 0 rfl ?_
    refine y_iload_n (pc' := 10) hB dc_M_single_9 rfl rfl 2 rfl ?_
    refine y_callV (c := 24) (ci := 4) (As := [.int (b)]) (rest := []) (pc' := 13) hB hE (ct_M_noOrderX o.l o.G (yx S 0) b h) mm_M_noOrder q_720 q_722 qs_14 (by decide) rfl rfl dc_M_single_10 rfl (by decide) rfl rfl (Nat.le_of_ble_eq_true rfl) (fun v S' hpost => ?_)
    obtain ⟨rfl, hSS⟩ := hpost
    rw [hSS]
    clear hSS S'
    show yW o (yx (yx S 0) 2) 13 [(0, .ref (o.G.ad (24))), (1, .int (nI (k))), (2, .int (b))] [.int (1)]
    rw [yx_yx]
    refine y_if_eq (x := 1) (pc' := 16) (tg := 18) hB dc_M_single_13 rfl rfl (fun b38 => ?_) (fun b38 => ?_)
    · exact absurd b38 (by decide)
    · skip
      refine y_iconst (v := nI 0) (pc' := 17) hB dc_M_single_16 rfl rfl ?_
      exact y_iret hB hE dc_M_single_17 ⟨rfl, rfl⟩
set_option maxHeartbeats 4000000 in
set_option maxRecDepth 100000 in
theorem ct_M_front_order (l : Launch) (g : YG) (S : YS) (k : Nat) (hk : k < 4) (b : Int32) (c : Int32) (h : ¬ zgo b) : yC l mn_M_front mb_M_front 8 none 5 g [.ref (g.ad (24)), .int (nI (k)), .int (b), .int (c)] S (fun v S' => v = none ∧ S' = yx S 2) := by
  refine yC_of (by decide) (Nat.le_of_ble_eq_true rfl) ?_
  intro o hl hg hB0 hE
  subst hl
  subst hg
  have hB : yB o mb_M_front "OrderBenchModel" := hB0
  have hm := hE.1
  show yW o (S) 0 [(0, .ref (o.G.ad (24))), (1, .int (nI (k))), (2, .int (b)), (3, .int (c))] []
  refine y_aload_n (pc' := 1) hB dc_M_front_0 rfl rfl 0 rfl ?_
  refine y_iload_n (pc' := 2) hB dc_M_front_1 rfl rfl 1 rfl ?_
  refine y_callV (c := 24) (ci := 4) (As := [.int (nI (k))]) (rest := []) (pc' := 5) hB hE (ct_M_noRow o.l o.G (S) (nI k) (zgr_of hk)) mm_M_noRow q_672 q_674 qs_12 (by decide) rfl rfl dc_M_front_2 rfl (by decide) rfl rfl (Nat.le_of_ble_eq_true rfl) (fun v S' hpost => ?_)
  obtain ⟨rfl, hSS⟩ := hpost
  rw [hSS]
  clear hSS S'
  show yW o (yx S 0) 5 [(0, .ref (o.G.ad (24))), (1, .int (nI (k))), (2, .int (b)), (3, .int (c))] [.int (0)]
  refine y_if_ne (x := 0) (pc' := 8) (tg := 16) hB dc_M_front_5 rfl rfl (fun b39 => ?_) (fun b39 => ?_)
  · exact absurd rfl b39
  · skip
    refine y_aload_n (pc' := 9) hB dc_M_front_8 rfl rfl 0 rfl ?_
    refine y_iload_n (pc' := 10) hB dc_M_front_9 rfl rfl 2 rfl ?_
    refine y_callV (c := 24) (ci := 4) (As := [.int (b)]) (rest := []) (pc' := 13) hB hE (ct_M_noOrderX o.l o.G (yx S 0) b h) mm_M_noOrder q_720 q_722 qs_14 (by decide) rfl rfl dc_M_front_10 rfl (by decide) rfl rfl (Nat.le_of_ble_eq_true rfl) (fun v S' hpost => ?_)
    obtain ⟨rfl, hSS⟩ := hpost
    rw [hSS]
    clear hSS S'
    show yW o (yx (yx S 0) 2) 13 [(0, .ref (o.G.ad (24))), (1, .int (nI (k))), (2, .int (b)), (3, .int (c))] [.int (1)]
    rw [yx_yx]
    refine y_if_eq (x := 1) (pc' := 16) (tg := 17) hB dc_M_front_13 rfl rfl (fun b40 => ?_) (fun b40 => ?_)
    · exact absurd b40 (by decide)
    · skip
      exact y_vret hB hE dc_M_front_16 ⟨rfl, rfl⟩
set_option maxHeartbeats 4000000 in
set_option maxRecDepth 100000 in
theorem ct_M_sort_order (l : Launch) (g : YG) (S : YS) (k : Nat) (hk : k < 4) (b : Int32) (c : Int32) (h : ¬ zgo c) : yC l mn_M_sort mb_M_sort 5 none 5 g [.ref (g.ad (24)), .int (nI (k)), .int (b), .int (c)] S (fun v S' => v = none ∧ S' = yx S 2) := by
  refine yC_of (by decide) (Nat.le_of_ble_eq_true rfl) ?_
  intro o hl hg hB0 hE
  subst hl
  subst hg
  have hB : yB o mb_M_sort "OrderBenchModel" := hB0
  have hm := hE.1
  show yW o (S) 0 [(0, .ref (o.G.ad (24))), (1, .int (nI (k))), (2, .int (b)), (3, .int (c))] []
  refine y_aload_n (pc' := 1) hB dc_M_sort_0 rfl rfl 0 rfl ?_
  refine y_iload_n (pc' := 2) hB dc_M_sort_1 rfl rfl 1 rfl ?_
  refine y_callV (c := 24) (ci := 4) (As := [.int (nI (k))]) (rest := []) (pc' := 5) hB hE (ct_M_noRow o.l o.G (S) (nI k) (zgr_of hk)) mm_M_noRow q_672 q_674 qs_12 (by decide) rfl rfl dc_M_sort_2 rfl (by decide) rfl rfl (Nat.le_of_ble_eq_true rfl) (fun v S' hpost => ?_)
  obtain ⟨rfl, hSS⟩ := hpost
  rw [hSS]
  clear hSS S'
  show yW o (yx S 0) 5 [(0, .ref (o.G.ad (24))), (1, .int (nI (k))), (2, .int (b)), (3, .int (c))] [.int (0)]
  refine y_if_ne (x := 0) (pc' := 8) (tg := 16) hB dc_M_sort_5 rfl rfl (fun b41 => ?_) (fun b41 => ?_)
  · exact absurd rfl b41
  · skip
    refine y_aload_n (pc' := 9) hB dc_M_sort_8 rfl rfl 0 rfl ?_
    refine y_iload_n (pc' := 10) hB dc_M_sort_9 rfl rfl 3 rfl ?_
    refine y_callV (c := 24) (ci := 4) (As := [.int (c)]) (rest := []) (pc' := 13) hB hE (ct_M_noOrderX o.l o.G (yx S 0) c h) mm_M_noOrder q_720 q_722 qs_14 (by decide) rfl rfl dc_M_sort_10 rfl (by decide) rfl rfl (Nat.le_of_ble_eq_true rfl) (fun v S' hpost => ?_)
    obtain ⟨rfl, hSS⟩ := hpost
    rw [hSS]
    clear hSS S'
    show yW o (yx (yx S 0) 2) 13 [(0, .ref (o.G.ad (24))), (1, .int (nI (k))), (2, .int (b)), (3, .int (c))] [.int (1)]
    rw [yx_yx]
    refine y_if_eq (x := 1) (pc' := 16) (tg := 17) hB dc_M_sort_13 rfl rfl (fun b42 => ?_) (fun b42 => ?_)
    · exact absurd b42 (by decide)
    · skip
      exact y_vret hB hE dc_M_sort_16 ⟨rfl, rfl⟩
set_option maxHeartbeats 4000000 in
set_option maxRecDepth 100000 in
theorem ct_M_add_full (l : Launch) (g : YG) (S : YS) (k n : Nat) (hk : k < 4) (hn : n ≤ 1024) (hc : gI S 27 k = nI n) (b : Int64) (c : Int32) (h : ¬ n < 1024) : yC l mn_M_add mb_M_add 5 (some .int) 5 g [.ref (g.ad (24)), .int (nI (k)), .long (b), .int (c)] S (fun v S' => v = some (.int (nI 0)) ∧ S' = yx S 2) := by
  refine yC_of (by decide) (Nat.le_of_ble_eq_true rfl) ?_
  intro o hl hg hB0 hE
  subst hl
  subst hg
  have hB : yB o mb_M_add "OrderBenchModel" := hB0
  have hm := hE.1
  show yW o (S) 0 [(0, .ref (o.G.ad (24))), (1, .int (nI (k))), (2, .long (b)), (4, .int (c))] []
  refine y_aload_n (pc' := 1) hB dc_M_add_0 rfl rfl 0 rfl ?_
  refine y_iload_n (pc' := 2) hB dc_M_add_1 rfl rfl 1 rfl ?_
  refine y_callV (c := 24) (ci := 4) (As := [.int (nI (k))]) (rest := []) (pc' := 5) hB hE (ct_M_noRow o.l o.G (S) (nI k) (zgr_of hk)) mm_M_noRow q_672 q_674 qs_12 (by decide) rfl rfl dc_M_add_2 rfl (by decide) rfl rfl (Nat.le_of_ble_eq_true rfl) (fun v S' hpost => ?_)
  obtain ⟨rfl, hSS⟩ := hpost
  rw [hSS]
  clear hSS S'
  show yW o (yx S 0) 5 [(0, .ref (o.G.ad (24))), (1, .int (nI (k))), (2, .long (b)), (4, .int (c))] [.int (0)]
  refine y_if_eq (x := 0) (pc' := 8) (tg := 10) hB dc_M_add_5 rfl rfl (fun b43 => ?_) (fun b43 => ?_)
  · skip
    refine y_aload_n (pc' := 11) hB dc_M_add_10 rfl rfl 0 rfl ?_
    refine y_aload_n (pc' := 12) hB dc_M_add_11 rfl rfl 0 rfl ?_
    refine f_M_sizes (pc' := 15) hB dc_M_add_12 rfl q_642 ?_
    refine y_iload_n (pc' := 16) hB dc_M_add_15 rfl rfl 1 rfl ?_
    refine y_iald (c := 27) (n := 4) (j := k) (pc' := 17) hB dc_M_add_16 rfl (by decide) rfl (by omega) (by decide) ?_
    refine y_topi (y := nI (n)) (hc) ?_
    refine y_sipush (v := nI 1024) (pc' := 20) hB dc_M_add_17 rfl (by decide) ?_
    refine n_icmp_ne (pc' := 23) (tg := 27) hB dc_M_add_20 rfl rfl (by omega) (by omega) (fun b1 => ?_) (fun b1 => ?_)
    · omega
    · refine y_iconst (v := nI 2) (pc' := 24) hB dc_M_add_23 rfl rfl ?_
      refine y_goto (tg := 28) hB dc_M_add_24 rfl ?_
      refine p_M_code (pc' := 31) hB dc_M_add_28 rfl q_639 ?_
      show yW o (yx (yx S 0) 2) 31 [(0, .ref (o.G.ad (24))), (1, .int (nI (k))), (2, .long (b)), (4, .int (c))] []
      rw [yx_yx]
      refine y_aload_n (pc' := 32) hB dc_M_add_31 rfl rfl 0 rfl ?_
      refine f_M_code (pc' := 35) hB dc_M_add_32 rfl q_639 ?_
      refine y_topi (y := nI (2)) (yx_c S 2) ?_
      refine n_if_le (pc' := 38) (tg := 40) hB dc_M_add_35 rfl rfl (by omega) (fun bz => ?_) (fun bz => ?_)
      · omega
      · refine y_iconst (v := nI 0) (pc' := 39) hB dc_M_add_38 rfl rfl ?_
        exact y_iret hB hE dc_M_add_39 ⟨rfl, rfl⟩
  · exact absurd rfl b43
set_option maxHeartbeats 4000000 in
set_option maxRecDepth 100000 in
theorem ct_M_cut_n (l : Launch) (g : YG) (S : YS) (k n : Nat) (hk : k < 4) (hn : n ≤ 1024) (hc : gI S 27 k = nI n) (b : Int32) (h : ¬ zgB n b) : yC l mn_M_cut mb_M_cut 3 none 5 g [.ref (g.ad (24)), .int (nI (k)), .int (b)] S (fun v S' => v = none ∧ S' = yx S 2) := by
  refine yC_of (by decide) (Nat.le_of_ble_eq_true rfl) ?_
  intro o hl hg hB0 hE
  subst hl
  subst hg
  have hB : yB o mb_M_cut "OrderBenchModel" := hB0
  have hm := hE.1
  show yW o (S) 0 [(0, .ref (o.G.ad (24))), (1, .int (nI (k))), (2, .int (b))] []
  refine y_aload_n (pc' := 1) hB dc_M_cut_0 rfl rfl 0 rfl ?_
  refine y_iload_n (pc' := 2) hB dc_M_cut_1 rfl rfl 1 rfl ?_
  refine y_callV (c := 24) (ci := 4) (As := [.int (nI (k))]) (rest := []) (pc' := 5) hB hE (ct_M_noRow o.l o.G (S) (nI k) (zgr_of hk)) mm_M_noRow q_672 q_674 qs_12 (by decide) rfl rfl dc_M_cut_2 rfl (by decide) rfl rfl (Nat.le_of_ble_eq_true rfl) (fun v S' hpost => ?_)
  obtain ⟨rfl, hSS⟩ := hpost
  rw [hSS]
  clear hSS S'
  show yW o (yx S 0) 5 [(0, .ref (o.G.ad (24))), (1, .int (nI (k))), (2, .int (b))] [.int (0)]
  refine y_if_eq (x := 0) (pc' := 8) (tg := 9) hB dc_M_cut_5 rfl rfl (fun b44 => ?_) (fun b44 => ?_)
  · skip
    refine y_aload_n (pc' := 10) hB dc_M_cut_9 rfl rfl 0 rfl ?_
    refine y_iload_n (pc' := 11) hB dc_M_cut_10 rfl rfl 2 rfl ?_
    refine y_if_lt (x := b) (pc' := 14) (tg := 24) hB dc_M_cut_11 rfl rfl (fun b1 => ?_) (fun b1 => ?_)
    · refine y_iconst (v := nI 2) (pc' := 25) hB dc_M_cut_24 rfl rfl ?_
      refine y_goto (tg := 29) hB dc_M_cut_25 rfl ?_
      refine p_M_code (pc' := 32) hB dc_M_cut_29 rfl q_639 ?_
      show yW o (yx (yx S 0) 2) 32 [(0, .ref (o.G.ad (24))), (1, .int (nI (k))), (2, .int (b))] []
      rw [yx_yx]
      refine y_aload_n (pc' := 33) hB dc_M_cut_32 rfl rfl 0 rfl ?_
      refine f_M_code (pc' := 36) hB dc_M_cut_33 rfl q_639 ?_
      refine y_topi (y := nI (2)) (yx_c S 2) ?_
      refine n_if_ne (pc' := 39) (tg := 46) hB dc_M_cut_36 rfl rfl (by omega) (fun bz => ?_) (fun bz => ?_)
      · exact y_vret hB hE dc_M_cut_46 ⟨rfl, rfl⟩
      · omega
    · refine y_iload_n (pc' := 15) hB dc_M_cut_14 rfl rfl 2 rfl ?_
      refine y_aload_n (pc' := 16) hB dc_M_cut_15 rfl rfl 0 rfl ?_
      refine f_M_sizes (pc' := 19) hB dc_M_cut_16 rfl q_642 ?_
      refine y_iload_n (pc' := 20) hB dc_M_cut_19 rfl rfl 1 rfl ?_
      refine y_iald (c := 27) (n := 4) (j := k) (pc' := 21) hB dc_M_cut_20 rfl (by decide) rfl (by omega) (by decide) ?_
      refine y_topi (y := nI n) (hc) ?_
      refine y_icmp_le (x := b) (y := nI n) (pc' := 24) (tg := 28) hB dc_M_cut_21 rfl rfl (fun b2 => ?_) (fun b2 => ?_)
      · exact absurd ⟨b1, b2⟩ h
      · refine y_iconst (v := nI 2) (pc' := 25) hB dc_M_cut_24 rfl rfl ?_
        refine y_goto (tg := 29) hB dc_M_cut_25 rfl ?_
        refine p_M_code (pc' := 32) hB dc_M_cut_29 rfl q_639 ?_
        show yW o (yx (yx S 0) 2) 32 [(0, .ref (o.G.ad (24))), (1, .int (nI (k))), (2, .int (b))] []
        rw [yx_yx]
        refine y_aload_n (pc' := 33) hB dc_M_cut_32 rfl rfl 0 rfl ?_
        refine f_M_code (pc' := 36) hB dc_M_cut_33 rfl q_639 ?_
        refine y_topi (y := nI (2)) (yx_c S 2) ?_
        refine n_if_ne (pc' := 39) (tg := 46) hB dc_M_cut_36 rfl rfl (by omega) (fun bz => ?_) (fun bz => ?_)
        · exact y_vret hB hE dc_M_cut_46 ⟨rfl, rfl⟩
        · omega
  · exact absurd rfl b44
set_option maxHeartbeats 4000000 in
set_option maxRecDepth 100000 in
theorem ct_M_fill_n (l : Launch) (g : YG) (S : YS) (k : Nat) (hk : k < 4) (b : Int32) (c : Int32) (d : Int64) (e : Int32) (h : ¬ zgB 1024 b) : yC l mn_M_fill mb_M_fill 12 none 5 g [.ref (g.ad (24)), .int (nI (k)), .int (b), .int (c), .long (d), .int (e)] S (fun v S' => v = none ∧ S' = yx S 2) := by
  refine yC_of (by decide) (Nat.le_of_ble_eq_true rfl) ?_
  intro o hl hg hB0 hE
  subst hl
  subst hg
  have hB : yB o mb_M_fill "OrderBenchModel" := hB0
  have hm := hE.1
  show yW o (S) 0 [(0, .ref (o.G.ad (24))), (1, .int (nI (k))), (2, .int (b)), (3, .int (c)), (4, .long (d)), (6, .int (e))] []
  refine y_aload_n (pc' := 1) hB dc_M_fill_0 rfl rfl 0 rfl ?_
  refine y_iload_n (pc' := 2) hB dc_M_fill_1 rfl rfl 1 rfl ?_
  refine y_callV (c := 24) (ci := 4) (As := [.int (nI (k))]) (rest := []) (pc' := 5) hB hE (ct_M_noRow o.l o.G (S) (nI k) (zgr_of hk)) mm_M_noRow q_672 q_674 qs_12 (by decide) rfl rfl dc_M_fill_2 rfl (by decide) rfl rfl (Nat.le_of_ble_eq_true rfl) (fun v S' hpost => ?_)
  obtain ⟨rfl, hSS⟩ := hpost
  rw [hSS]
  clear hSS S'
  show yW o (yx S 0) 5 [(0, .ref (o.G.ad (24))), (1, .int (nI (k))), (2, .int (b)), (3, .int (c)), (4, .long (d)), (6, .int (e))] [.int (0)]
  refine y_if_eq (x := 0) (pc' := 8) (tg := 9) hB dc_M_fill_5 rfl rfl (fun b45 => ?_) (fun b45 => ?_)
  · skip
    refine y_aload_n (pc' := 10) hB dc_M_fill_9 rfl rfl 0 rfl ?_
    refine y_iload_n (pc' := 11) hB dc_M_fill_10 rfl rfl 2 rfl ?_
    refine y_if_lt (x := b) (pc' := 14) (tg := 30) hB dc_M_fill_11 rfl rfl (fun b1 => ?_) (fun b1 => ?_)
    · refine y_iconst (v := nI 2) (pc' := 31) hB dc_M_fill_30 rfl rfl ?_
      refine y_goto (tg := 35) hB dc_M_fill_31 rfl ?_
      refine p_M_code (pc' := 38) hB dc_M_fill_35 rfl q_639 ?_
      show yW o (yx (yx S 0) 2) 38 [(0, .ref (o.G.ad (24))), (1, .int (nI (k))), (2, .int (b)), (3, .int (c)), (4, .long (d)), (6, .int (e))] []
      rw [yx_yx]
      refine y_aload_n (pc' := 39) hB dc_M_fill_38 rfl rfl 0 rfl ?_
      refine f_M_code (pc' := 42) hB dc_M_fill_39 rfl q_639 ?_
      refine y_topi (y := nI (2)) (yx_c S 2) ?_
      refine n_if_le (pc' := 45) (tg := 46) hB dc_M_fill_42 rfl rfl (by omega) (fun bz => ?_) (fun bz => ?_)
      · omega
      · exact y_vret hB hE dc_M_fill_45 ⟨rfl, rfl⟩
    · refine y_iload_n (pc' := 15) hB dc_M_fill_14 rfl rfl 2 rfl ?_
      refine y_sipush (v := nI 1024) (pc' := 18) hB dc_M_fill_15 rfl (by decide) ?_
      refine y_icmp_gt (x := b) (y := nI (1024)) (pc' := 21) (tg := 30) hB dc_M_fill_18 rfl rfl (fun b2 => ?_) (fun b2 => ?_)
      · refine y_iconst (v := nI 2) (pc' := 31) hB dc_M_fill_30 rfl rfl ?_
        refine y_goto (tg := 35) hB dc_M_fill_31 rfl ?_
        refine p_M_code (pc' := 38) hB dc_M_fill_35 rfl q_639 ?_
        show yW o (yx (yx S 0) 2) 38 [(0, .ref (o.G.ad (24))), (1, .int (nI (k))), (2, .int (b)), (3, .int (c)), (4, .long (d)), (6, .int (e))] []
        rw [yx_yx]
        refine y_aload_n (pc' := 39) hB dc_M_fill_38 rfl rfl 0 rfl ?_
        refine f_M_code (pc' := 42) hB dc_M_fill_39 rfl q_639 ?_
        refine y_topi (y := nI (2)) (yx_c S 2) ?_
        refine n_if_le (pc' := 45) (tg := 46) hB dc_M_fill_42 rfl rfl (by omega) (fun bz => ?_) (fun bz => ?_)
        · omega
        · exact y_vret hB hE dc_M_fill_45 ⟨rfl, rfl⟩
      · exact absurd ⟨b1, Int32.not_lt.mp b2⟩ h
  · exact absurd rfl b45
set_option maxHeartbeats 4000000 in
set_option maxRecDepth 100000 in
theorem ct_M_fill_kind (l : Launch) (g : YG) (S : YS) (k m : Nat) (hk : k < 4) (hm2 : m ≤ 1024) (c : Int32) (d : Int64) (e : Int32) (h : ¬ zgB 5 c) : yC l mn_M_fill mb_M_fill 12 none 5 g [.ref (g.ad (24)), .int (nI (k)), .int (nI (m)), .int (c), .long (d), .int (e)] S (fun v S' => v = none ∧ S' = yx S 2) := by
  refine yC_of (by decide) (Nat.le_of_ble_eq_true rfl) ?_
  intro o hl hg hB0 hE
  subst hl
  subst hg
  have hB : yB o mb_M_fill "OrderBenchModel" := hB0
  have hm := hE.1
  show yW o (S) 0 [(0, .ref (o.G.ad (24))), (1, .int (nI (k))), (2, .int (nI (m))), (3, .int (c)), (4, .long (d)), (6, .int (e))] []
  refine y_aload_n (pc' := 1) hB dc_M_fill_0 rfl rfl 0 rfl ?_
  refine y_iload_n (pc' := 2) hB dc_M_fill_1 rfl rfl 1 rfl ?_
  refine y_callV (c := 24) (ci := 4) (As := [.int (nI (k))]) (rest := []) (pc' := 5) hB hE (ct_M_noRow o.l o.G (S) (nI k) (zgr_of hk)) mm_M_noRow q_672 q_674 qs_12 (by decide) rfl rfl dc_M_fill_2 rfl (by decide) rfl rfl (Nat.le_of_ble_eq_true rfl) (fun v S' hpost => ?_)
  obtain ⟨rfl, hSS⟩ := hpost
  rw [hSS]
  clear hSS S'
  show yW o (yx S 0) 5 [(0, .ref (o.G.ad (24))), (1, .int (nI (k))), (2, .int (nI (m))), (3, .int (c)), (4, .long (d)), (6, .int (e))] [.int (0)]
  refine y_if_eq (x := 0) (pc' := 8) (tg := 9) hB dc_M_fill_5 rfl rfl (fun b46 => ?_) (fun b46 => ?_)
  · skip
    refine y_aload_n (pc' := 10) hB dc_M_fill_9 rfl rfl 0 rfl ?_
    refine y_iload_n (pc' := 11) hB dc_M_fill_10 rfl rfl 2 rfl ?_
    refine n_if_lt (pc' := 14) (tg := 30) hB dc_M_fill_11 rfl rfl (by omega) ?_
    refine y_iload_n (pc' := 15) hB dc_M_fill_14 rfl rfl 2 rfl ?_
    refine y_sipush (v := nI 1024) (pc' := 18) hB dc_M_fill_15 rfl (by decide) ?_
    refine n_icmp_gt (pc' := 21) (tg := 30) hB dc_M_fill_18 rfl rfl (by omega) (by omega) (fun b1 => ?_) (fun b1 => ?_)
    · omega
    · refine y_iload_n (pc' := 22) hB dc_M_fill_21 rfl rfl 3 rfl ?_
      refine y_if_lt (x := c) (pc' := 25) (tg := 30) hB dc_M_fill_22 rfl rfl (fun b2 => ?_) (fun b2 => ?_)
      · refine y_iconst (v := nI 2) (pc' := 31) hB dc_M_fill_30 rfl rfl ?_
        refine y_goto (tg := 35) hB dc_M_fill_31 rfl ?_
        refine p_M_code (pc' := 38) hB dc_M_fill_35 rfl q_639 ?_
        show yW o (yx (yx S 0) 2) 38 [(0, .ref (o.G.ad (24))), (1, .int (nI (k))), (2, .int (nI (m))), (3, .int (c)), (4, .long (d)), (6, .int (e))] []
        rw [yx_yx]
        refine y_aload_n (pc' := 39) hB dc_M_fill_38 rfl rfl 0 rfl ?_
        refine f_M_code (pc' := 42) hB dc_M_fill_39 rfl q_639 ?_
        refine y_topi (y := nI (2)) (yx_c S 2) ?_
        refine n_if_le (pc' := 45) (tg := 46) hB dc_M_fill_42 rfl rfl (by omega) (fun bz => ?_) (fun bz => ?_)
        · omega
        · exact y_vret hB hE dc_M_fill_45 ⟨rfl, rfl⟩
      · refine y_iload_n (pc' := 26) hB dc_M_fill_25 rfl rfl 3 rfl ?_
        refine y_iconst (v := nI 5) (pc' := 27) hB dc_M_fill_26 rfl rfl ?_
        refine y_icmp_le (x := c) (y := nI (5)) (pc' := 30) (tg := 34) hB dc_M_fill_27 rfl rfl (fun b3 => ?_) (fun b3 => ?_)
        · exact absurd ⟨b2, b3⟩ h
        · refine y_iconst (v := nI 2) (pc' := 31) hB dc_M_fill_30 rfl rfl ?_
          refine y_goto (tg := 35) hB dc_M_fill_31 rfl ?_
          refine p_M_code (pc' := 38) hB dc_M_fill_35 rfl q_639 ?_
          show yW o (yx (yx S 0) 2) 38 [(0, .ref (o.G.ad (24))), (1, .int (nI (k))), (2, .int (nI (m))), (3, .int (c)), (4, .long (d)), (6, .int (e))] []
          rw [yx_yx]
          refine y_aload_n (pc' := 39) hB dc_M_fill_38 rfl rfl 0 rfl ?_
          refine f_M_code (pc' := 42) hB dc_M_fill_39 rfl q_639 ?_
          refine y_topi (y := nI (2)) (yx_c S 2) ?_
          refine n_if_le (pc' := 45) (tg := 46) hB dc_M_fill_42 rfl rfl (by omega) (fun bz => ?_) (fun bz => ?_)
          · omega
          · exact y_vret hB hE dc_M_fill_45 ⟨rfl, rfl⟩
  · exact absurd rfl b46
set_option maxHeartbeats 4000000 in
set_option maxRecDepth 100000 in
theorem ct_M_front_k (l : Launch) (g : YG) (S : YS) (k n : Nat) (hk : k < 4) (hn : n ≤ 1024) (hc : gI S 27 k = nI n) (od : Nat) (ho : od < 8) (c : Int32) (h : ¬ zgB n c) : yC l mn_M_front mb_M_front 8 none 5 g [.ref (g.ad (24)), .int (nI (k)), .int (nI (od)), .int (c)] S (fun v S' => v = none ∧ S' = yx S 2) := by
  refine yC_of (by decide) (Nat.le_of_ble_eq_true rfl) ?_
  intro o hl hg hB0 hE
  subst hl
  subst hg
  have hB : yB o mb_M_front "OrderBenchModel" := hB0
  have hm := hE.1
  show yW o (S) 0 [(0, .ref (o.G.ad (24))), (1, .int (nI (k))), (2, .int (nI (od))), (3, .int (c))] []
  refine y_aload_n (pc' := 1) hB dc_M_front_0 rfl rfl 0 rfl ?_
  refine y_iload_n (pc' := 2) hB dc_M_front_1 rfl rfl 1 rfl ?_
  refine y_callV (c := 24) (ci := 4) (As := [.int (nI (k))]) (rest := []) (pc' := 5) hB hE (ct_M_noRow o.l o.G (S) (nI k) (zgr_of hk)) mm_M_noRow q_672 q_674 qs_12 (by decide) rfl rfl dc_M_front_2 rfl (by decide) rfl rfl (Nat.le_of_ble_eq_true rfl) (fun v S' hpost => ?_)
  obtain ⟨rfl, hSS⟩ := hpost
  rw [hSS]
  clear hSS S'
  show yW o (yx S 0) 5 [(0, .ref (o.G.ad (24))), (1, .int (nI (k))), (2, .int (nI (od))), (3, .int (c))] [.int (0)]
  refine y_if_ne (x := 0) (pc' := 8) (tg := 16) hB dc_M_front_5 rfl rfl (fun b47 => ?_) (fun b47 => ?_)
  · exact absurd rfl b47
  · skip
    refine y_aload_n (pc' := 9) hB dc_M_front_8 rfl rfl 0 rfl ?_
    refine y_iload_n (pc' := 10) hB dc_M_front_9 rfl rfl 2 rfl ?_
    refine y_callV (c := 24) (ci := 4) (As := [.int (nI (od))]) (rest := []) (pc' := 13) hB hE (ct_M_noOrder o.l o.G (yx S 0) (nI od) (zgo_of ho)) mm_M_noOrder q_720 q_722 qs_14 (by decide) rfl rfl dc_M_front_10 rfl (by decide) rfl rfl (Nat.le_of_ble_eq_true rfl) (fun v S' hpost => ?_)
    obtain ⟨rfl, hSS⟩ := hpost
    rw [hSS]
    clear hSS S'
    show yW o (yx (yx S 0) 0) 13 [(0, .ref (o.G.ad (24))), (1, .int (nI (k))), (2, .int (nI (od))), (3, .int (c))] [.int (0)]
    rw [yx_yx]
    refine y_if_eq (x := 0) (pc' := 16) (tg := 17) hB dc_M_front_13 rfl rfl (fun b48 => ?_) (fun b48 => ?_)
    · skip
      refine y_aload_n (pc' := 18) hB dc_M_front_17 rfl rfl 0 rfl ?_
      refine y_iload_n (pc' := 19) hB dc_M_front_18 rfl rfl 3 rfl ?_
      refine y_if_lt (x := c) (pc' := 22) (tg := 32) hB dc_M_front_19 rfl rfl (fun b1 => ?_) (fun b1 => ?_)
      · refine y_iconst (v := nI 2) (pc' := 33) hB dc_M_front_32 rfl rfl ?_
        refine y_goto (tg := 37) hB dc_M_front_33 rfl ?_
        refine p_M_code (pc' := 40) hB dc_M_front_37 rfl q_639 ?_
        show yW o (yx (yx S 0) 2) 40 [(0, .ref (o.G.ad (24))), (1, .int (nI (k))), (2, .int (nI (od))), (3, .int (c))] []
        rw [yx_yx]
        refine y_aload_n (pc' := 41) hB dc_M_front_40 rfl rfl 0 rfl ?_
        refine f_M_code (pc' := 44) hB dc_M_front_41 rfl q_639 ?_
        refine y_topi (y := nI (2)) (yx_c S 2) ?_
        refine n_if_le (pc' := 47) (tg := 48) hB dc_M_front_44 rfl rfl (by omega) (fun bz => ?_) (fun bz => ?_)
        · omega
        · exact y_vret hB hE dc_M_front_47 ⟨rfl, rfl⟩
      · refine y_iload_n (pc' := 23) hB dc_M_front_22 rfl rfl 3 rfl ?_
        refine y_aload_n (pc' := 24) hB dc_M_front_23 rfl rfl 0 rfl ?_
        refine f_M_sizes (pc' := 27) hB dc_M_front_24 rfl q_642 ?_
        refine y_iload_n (pc' := 28) hB dc_M_front_27 rfl rfl 1 rfl ?_
        refine y_iald (c := 27) (n := 4) (j := k) (pc' := 29) hB dc_M_front_28 rfl (by decide) rfl (by omega) (by decide) ?_
        refine y_topi (y := nI n) (hc) ?_
        refine y_icmp_le (x := c) (y := nI n) (pc' := 32) (tg := 36) hB dc_M_front_29 rfl rfl (fun b2 => ?_) (fun b2 => ?_)
        · exact absurd ⟨b1, b2⟩ h
        · refine y_iconst (v := nI 2) (pc' := 33) hB dc_M_front_32 rfl rfl ?_
          refine y_goto (tg := 37) hB dc_M_front_33 rfl ?_
          refine p_M_code (pc' := 40) hB dc_M_front_37 rfl q_639 ?_
          show yW o (yx (yx S 0) 2) 40 [(0, .ref (o.G.ad (24))), (1, .int (nI (k))), (2, .int (nI (od))), (3, .int (c))] []
          rw [yx_yx]
          refine y_aload_n (pc' := 41) hB dc_M_front_40 rfl rfl 0 rfl ?_
          refine f_M_code (pc' := 44) hB dc_M_front_41 rfl q_639 ?_
          refine y_topi (y := nI (2)) (yx_c S 2) ?_
          refine n_if_le (pc' := 47) (tg := 48) hB dc_M_front_44 rfl rfl (by omega) (fun bz => ?_) (fun bz => ?_)
          · omega
          · exact y_vret hB hE dc_M_front_47 ⟨rfl, rfl⟩
    · exact absurd rfl b48
set_option maxHeartbeats 4000000 in
set_option maxRecDepth 100000 in
theorem ct_M_copy_row (l : Launch) (g : YG) (S : YS) (a : Int32) (b : Int32) (h : ¬ zgr a) : yC l mn_M_copy mb_M_copy 4 none 5 g [.ref (g.ad (24)), .int (a), .int (b)] S (fun v S' => v = none ∧ S' = yx S 1) := by
  refine yC_of (by decide) (Nat.le_of_ble_eq_true rfl) ?_
  intro o hl hg hB0 hE
  subst hl
  subst hg
  have hB : yB o mb_M_copy "OrderBenchModel" := hB0
  have hm := hE.1
  show yW o (S) 0 [(0, .ref (o.G.ad (24))), (1, .int (a)), (2, .int (b))] []
  refine y_aload_n (pc' := 1) hB dc_M_copy_0 rfl rfl 0 rfl ?_
  refine y_iload_n (pc' := 2) hB dc_M_copy_1 rfl rfl 1 rfl ?_
  refine y_if_lt (x := a) (pc' := 5) (tg := 19) hB dc_M_copy_2 rfl rfl (fun b1 => ?_) (fun b1 => ?_)
  · refine y_iconst (v := nI 1) (pc' := 20) hB dc_M_copy_19 rfl rfl ?_
    refine y_goto (tg := 24) hB dc_M_copy_20 rfl ?_
    refine p_M_code (pc' := 27) hB dc_M_copy_24 rfl q_639 ?_
    show yW o (yx S 1) 27 [(0, .ref (o.G.ad (24))), (1, .int (a)), (2, .int (b))] []
    refine y_aload_n (pc' := 28) hB dc_M_copy_27 rfl rfl 0 rfl ?_
    refine f_M_code (pc' := 31) hB dc_M_copy_28 rfl q_639 ?_
    refine y_topi (y := nI (1)) (yx_c S 1) ?_
    refine n_if_le (pc' := 34) (tg := 35) hB dc_M_copy_31 rfl rfl (by omega) (fun bz => ?_) (fun bz => ?_)
    · omega
    · exact y_vret hB hE dc_M_copy_34 ⟨rfl, rfl⟩
  · refine y_iload_n (pc' := 6) hB dc_M_copy_5 rfl rfl 1 rfl ?_
    refine y_iconst (v := nI 3) (pc' := 7) hB dc_M_copy_6 rfl rfl ?_
    refine y_icmp_gt (x := a) (y := nI (3)) (pc' := 10) (tg := 19) hB dc_M_copy_7 rfl rfl (fun b2 => ?_) (fun b2 => ?_)
    · refine y_iconst (v := nI 1) (pc' := 20) hB dc_M_copy_19 rfl rfl ?_
      refine y_goto (tg := 24) hB dc_M_copy_20 rfl ?_
      refine p_M_code (pc' := 27) hB dc_M_copy_24 rfl q_639 ?_
      show yW o (yx S 1) 27 [(0, .ref (o.G.ad (24))), (1, .int (a)), (2, .int (b))] []
      refine y_aload_n (pc' := 28) hB dc_M_copy_27 rfl rfl 0 rfl ?_
      refine f_M_code (pc' := 31) hB dc_M_copy_28 rfl q_639 ?_
      refine y_topi (y := nI (1)) (yx_c S 1) ?_
      refine n_if_le (pc' := 34) (tg := 35) hB dc_M_copy_31 rfl rfl (by omega) (fun bz => ?_) (fun bz => ?_)
      · omega
      · exact y_vret hB hE dc_M_copy_34 ⟨rfl, rfl⟩
    · exact absurd ⟨b1, Int32.not_lt.mp b2⟩ h
set_option maxHeartbeats 4000000 in
set_option maxRecDepth 100000 in
theorem ct_M_copy_to (l : Launch) (g : YG) (S : YS) (k : Nat) (hk : k < 4) (b : Int32) (h : ¬ zgr b) : yC l mn_M_copy mb_M_copy 4 none 5 g [.ref (g.ad (24)), .int (nI (k)), .int (b)] S (fun v S' => v = none ∧ S' = yx S 1) := by
  refine yC_of (by decide) (Nat.le_of_ble_eq_true rfl) ?_
  intro o hl hg hB0 hE
  subst hl
  subst hg
  have hB : yB o mb_M_copy "OrderBenchModel" := hB0
  have hm := hE.1
  show yW o (S) 0 [(0, .ref (o.G.ad (24))), (1, .int (nI (k))), (2, .int (b))] []
  refine y_aload_n (pc' := 1) hB dc_M_copy_0 rfl rfl 0 rfl ?_
  refine y_iload_n (pc' := 2) hB dc_M_copy_1 rfl rfl 1 rfl ?_
  refine n_if_lt (pc' := 5) (tg := 19) hB dc_M_copy_2 rfl rfl (by omega) ?_
  refine y_iload_n (pc' := 6) hB dc_M_copy_5 rfl rfl 1 rfl ?_
  refine y_iconst (v := nI 3) (pc' := 7) hB dc_M_copy_6 rfl rfl ?_
  refine n_icmp_gt (pc' := 10) (tg := 19) hB dc_M_copy_7 rfl rfl (by omega) (by omega) (fun b1 => ?_) (fun b1 => ?_)
  · omega
  · refine y_iload_n (pc' := 11) hB dc_M_copy_10 rfl rfl 2 rfl ?_
    refine y_if_lt (x := b) (pc' := 14) (tg := 19) hB dc_M_copy_11 rfl rfl (fun b2 => ?_) (fun b2 => ?_)
    · refine y_iconst (v := nI 1) (pc' := 20) hB dc_M_copy_19 rfl rfl ?_
      refine y_goto (tg := 24) hB dc_M_copy_20 rfl ?_
      refine p_M_code (pc' := 27) hB dc_M_copy_24 rfl q_639 ?_
      show yW o (yx S 1) 27 [(0, .ref (o.G.ad (24))), (1, .int (nI (k))), (2, .int (b))] []
      refine y_aload_n (pc' := 28) hB dc_M_copy_27 rfl rfl 0 rfl ?_
      refine f_M_code (pc' := 31) hB dc_M_copy_28 rfl q_639 ?_
      refine y_topi (y := nI (1)) (yx_c S 1) ?_
      refine n_if_le (pc' := 34) (tg := 35) hB dc_M_copy_31 rfl rfl (by omega) (fun bz => ?_) (fun bz => ?_)
      · omega
      · exact y_vret hB hE dc_M_copy_34 ⟨rfl, rfl⟩
    · refine y_iload_n (pc' := 15) hB dc_M_copy_14 rfl rfl 2 rfl ?_
      refine y_iconst (v := nI 3) (pc' := 16) hB dc_M_copy_15 rfl rfl ?_
      refine y_icmp_le (x := b) (y := nI (3)) (pc' := 19) (tg := 23) hB dc_M_copy_16 rfl rfl (fun b3 => ?_) (fun b3 => ?_)
      · exact absurd ⟨b2, b3⟩ h
      · refine y_iconst (v := nI 1) (pc' := 20) hB dc_M_copy_19 rfl rfl ?_
        refine y_goto (tg := 24) hB dc_M_copy_20 rfl ?_
        refine p_M_code (pc' := 27) hB dc_M_copy_24 rfl q_639 ?_
        show yW o (yx S 1) 27 [(0, .ref (o.G.ad (24))), (1, .int (nI (k))), (2, .int (b))] []
        refine y_aload_n (pc' := 28) hB dc_M_copy_27 rfl rfl 0 rfl ?_
        refine f_M_code (pc' := 31) hB dc_M_copy_28 rfl q_639 ?_
        refine y_topi (y := nI (1)) (yx_c S 1) ?_
        refine n_if_le (pc' := 34) (tg := 35) hB dc_M_copy_31 rfl rfl (by omega) (fun bz => ?_) (fun bz => ?_)
        · omega
        · exact y_vret hB hE dc_M_copy_34 ⟨rfl, rfl⟩
set_option maxHeartbeats 4000000 in
set_option maxRecDepth 100000 in
theorem ct_M_sort_way (l : Launch) (g : YG) (S : YS) (k od : Nat) (hk : k < 4) (ho : od < 8) (b : Int32) (h : ¬ zgB 6 b) : yC l mn_M_sort mb_M_sort 5 none 5 g [.ref (g.ad (24)), .int (nI (k)), .int (b), .int (nI (od))] S (fun v S' => v = none ∧ S' = yx S 2) := by
  refine yC_of (by decide) (Nat.le_of_ble_eq_true rfl) ?_
  intro o hl hg hB0 hE
  subst hl
  subst hg
  have hB : yB o mb_M_sort "OrderBenchModel" := hB0
  have hm := hE.1
  show yW o (S) 0 [(0, .ref (o.G.ad (24))), (1, .int (nI (k))), (2, .int (b)), (3, .int (nI (od)))] []
  refine y_aload_n (pc' := 1) hB dc_M_sort_0 rfl rfl 0 rfl ?_
  refine y_iload_n (pc' := 2) hB dc_M_sort_1 rfl rfl 1 rfl ?_
  refine y_callV (c := 24) (ci := 4) (As := [.int (nI (k))]) (rest := []) (pc' := 5) hB hE (ct_M_noRow o.l o.G (S) (nI k) (zgr_of hk)) mm_M_noRow q_672 q_674 qs_12 (by decide) rfl rfl dc_M_sort_2 rfl (by decide) rfl rfl (Nat.le_of_ble_eq_true rfl) (fun v S' hpost => ?_)
  obtain ⟨rfl, hSS⟩ := hpost
  rw [hSS]
  clear hSS S'
  show yW o (yx S 0) 5 [(0, .ref (o.G.ad (24))), (1, .int (nI (k))), (2, .int (b)), (3, .int (nI (od)))] [.int (0)]
  refine y_if_ne (x := 0) (pc' := 8) (tg := 16) hB dc_M_sort_5 rfl rfl (fun b49 => ?_) (fun b49 => ?_)
  · exact absurd rfl b49
  · skip
    refine y_aload_n (pc' := 9) hB dc_M_sort_8 rfl rfl 0 rfl ?_
    refine y_iload_n (pc' := 10) hB dc_M_sort_9 rfl rfl 3 rfl ?_
    refine y_callV (c := 24) (ci := 4) (As := [.int (nI (od))]) (rest := []) (pc' := 13) hB hE (ct_M_noOrder o.l o.G (yx S 0) (nI od) (zgo_of ho)) mm_M_noOrder q_720 q_722 qs_14 (by decide) rfl rfl dc_M_sort_10 rfl (by decide) rfl rfl (Nat.le_of_ble_eq_true rfl) (fun v S' hpost => ?_)
    obtain ⟨rfl, hSS⟩ := hpost
    rw [hSS]
    clear hSS S'
    show yW o (yx (yx S 0) 0) 13 [(0, .ref (o.G.ad (24))), (1, .int (nI (k))), (2, .int (b)), (3, .int (nI (od)))] [.int (0)]
    rw [yx_yx]
    refine y_if_eq (x := 0) (pc' := 16) (tg := 17) hB dc_M_sort_13 rfl rfl (fun b50 => ?_) (fun b50 => ?_)
    · skip
      refine y_iload_n (pc' := 18) hB dc_M_sort_17 rfl rfl 3 rfl ?_
      refine y_iconst (v := nI 3) (pc' := 19) hB dc_M_sort_18 rfl rfl ?_
      refine n_icmp_lt (pc' := 22) (tg := 27) hB dc_M_sort_19 rfl rfl (by omega) (by omega) (fun b1 => ?_) (fun b1 => ?_)
      · refine y_iconst (v := nI 1) (pc' := 28) hB dc_M_sort_27 rfl rfl ?_
        refine y_goto (tg := 32) hB dc_M_sort_28 rfl ?_
        refine y_istore (pc' := 34) (lv' := [(4, .int (nI (1))), (0, .ref (o.G.ad (24))), (1, .int (nI (k))), (2, .int (b)), (3, .int (nI (od)))]) hB hm dc_M_sort_32 rfl (by decide) rfl ?_
        refine y_aload_n (pc' := 35) hB dc_M_sort_34 rfl rfl 1 rfl ?_
        refine y_iload_n (pc' := 36) hB dc_M_sort_35 rfl rfl 3 rfl ?_
        refine y_if_lt (x := b) (pc' := 39) (tg := 56) hB dc_M_sort_36 rfl rfl (fun c1 => ?_) (fun c1 => ?_)
        · refine y_iconst (v := nI 2) (pc' := 57) hB dc_M_sort_56 rfl rfl ?_
          refine y_goto (tg := 61) hB dc_M_sort_57 rfl ?_
          refine p_M_code (pc' := 64) hB dc_M_sort_61 rfl q_639 ?_
          show yW o (yx (yx S 0) 2) 64 [(4, .int (nI (1))), (0, .ref (o.G.ad (24))), (1, .int (nI (k))), (2, .int (b)), (3, .int (nI (od)))] []
          rw [yx_yx]
          refine y_aload_n (pc' := 65) hB dc_M_sort_64 rfl rfl 1 rfl ?_
          refine f_M_code (pc' := 68) hB dc_M_sort_65 rfl q_639 ?_
          refine y_topi (y := nI (2)) (yx_c S 2) ?_
          refine n_if_le (pc' := 71) (tg := 72) hB dc_M_sort_68 rfl rfl (by omega) (fun bz => ?_) (fun bz => ?_)
          · omega
          · exact y_vret hB hE dc_M_sort_71 ⟨rfl, rfl⟩
        · refine y_iload_n (pc' := 40) hB dc_M_sort_39 rfl rfl 3 rfl ?_
          refine y_bipush (v := nI 6) (pc' := 42) hB dc_M_sort_40 rfl (by decide) ?_
          refine y_icmp_gt (x := b) (y := nI (6)) (pc' := 45) (tg := 56) hB dc_M_sort_42 rfl rfl (fun c2 => ?_) (fun c2 => ?_)
          · refine y_iconst (v := nI 2) (pc' := 57) hB dc_M_sort_56 rfl rfl ?_
            refine y_goto (tg := 61) hB dc_M_sort_57 rfl ?_
            refine p_M_code (pc' := 64) hB dc_M_sort_61 rfl q_639 ?_
            show yW o (yx (yx S 0) 2) 64 [(4, .int (nI (1))), (0, .ref (o.G.ad (24))), (1, .int (nI (k))), (2, .int (b)), (3, .int (nI (od)))] []
            rw [yx_yx]
            refine y_aload_n (pc' := 65) hB dc_M_sort_64 rfl rfl 1 rfl ?_
            refine f_M_code (pc' := 68) hB dc_M_sort_65 rfl q_639 ?_
            refine y_topi (y := nI (2)) (yx_c S 2) ?_
            refine n_if_le (pc' := 71) (tg := 72) hB dc_M_sort_68 rfl rfl (by omega) (fun bz => ?_) (fun bz => ?_)
            · omega
            · exact y_vret hB hE dc_M_sort_71 ⟨rfl, rfl⟩
          · exact absurd ⟨c1, Int32.not_lt.mp c2⟩ h
      · refine y_iload_n (pc' := 23) hB dc_M_sort_22 rfl rfl 3 rfl ?_
        refine y_iconst (v := nI 5) (pc' := 24) hB dc_M_sort_23 rfl rfl ?_
        refine n_icmp_ne (pc' := 27) (tg := 31) hB dc_M_sort_24 rfl rfl (by omega) (by omega) (fun b2 => ?_) (fun b2 => ?_)
        · refine y_iconst (v := nI 0) (pc' := 32) hB dc_M_sort_31 rfl rfl ?_
          refine y_istore (pc' := 34) (lv' := [(4, .int (nI (0))), (0, .ref (o.G.ad (24))), (1, .int (nI (k))), (2, .int (b)), (3, .int (nI (od)))]) hB hm dc_M_sort_32 rfl (by decide) rfl ?_
          refine y_aload_n (pc' := 35) hB dc_M_sort_34 rfl rfl 1 rfl ?_
          refine y_iload_n (pc' := 36) hB dc_M_sort_35 rfl rfl 3 rfl ?_
          refine y_if_lt (x := b) (pc' := 39) (tg := 56) hB dc_M_sort_36 rfl rfl (fun c1 => ?_) (fun c1 => ?_)
          · refine y_iconst (v := nI 2) (pc' := 57) hB dc_M_sort_56 rfl rfl ?_
            refine y_goto (tg := 61) hB dc_M_sort_57 rfl ?_
            refine p_M_code (pc' := 64) hB dc_M_sort_61 rfl q_639 ?_
            show yW o (yx (yx S 0) 2) 64 [(4, .int (nI (0))), (0, .ref (o.G.ad (24))), (1, .int (nI (k))), (2, .int (b)), (3, .int (nI (od)))] []
            rw [yx_yx]
            refine y_aload_n (pc' := 65) hB dc_M_sort_64 rfl rfl 1 rfl ?_
            refine f_M_code (pc' := 68) hB dc_M_sort_65 rfl q_639 ?_
            refine y_topi (y := nI (2)) (yx_c S 2) ?_
            refine n_if_le (pc' := 71) (tg := 72) hB dc_M_sort_68 rfl rfl (by omega) (fun bz => ?_) (fun bz => ?_)
            · omega
            · exact y_vret hB hE dc_M_sort_71 ⟨rfl, rfl⟩
          · refine y_iload_n (pc' := 40) hB dc_M_sort_39 rfl rfl 3 rfl ?_
            refine y_bipush (v := nI 6) (pc' := 42) hB dc_M_sort_40 rfl (by decide) ?_
            refine y_icmp_gt (x := b) (y := nI (6)) (pc' := 45) (tg := 56) hB dc_M_sort_42 rfl rfl (fun c2 => ?_) (fun c2 => ?_)
            · refine y_iconst (v := nI 2) (pc' := 57) hB dc_M_sort_56 rfl rfl ?_
              refine y_goto (tg := 61) hB dc_M_sort_57 rfl ?_
              refine p_M_code (pc' := 64) hB dc_M_sort_61 rfl q_639 ?_
              show yW o (yx (yx S 0) 2) 64 [(4, .int (nI (0))), (0, .ref (o.G.ad (24))), (1, .int (nI (k))), (2, .int (b)), (3, .int (nI (od)))] []
              rw [yx_yx]
              refine y_aload_n (pc' := 65) hB dc_M_sort_64 rfl rfl 1 rfl ?_
              refine f_M_code (pc' := 68) hB dc_M_sort_65 rfl q_639 ?_
              refine y_topi (y := nI (2)) (yx_c S 2) ?_
              refine n_if_le (pc' := 71) (tg := 72) hB dc_M_sort_68 rfl rfl (by omega) (fun bz => ?_) (fun bz => ?_)
              · omega
              · exact y_vret hB hE dc_M_sort_71 ⟨rfl, rfl⟩
            · exact absurd ⟨c1, Int32.not_lt.mp c2⟩ h
        · refine y_iconst (v := nI 1) (pc' := 28) hB dc_M_sort_27 rfl rfl ?_
          refine y_goto (tg := 32) hB dc_M_sort_28 rfl ?_
          refine y_istore (pc' := 34) (lv' := [(4, .int (nI (1))), (0, .ref (o.G.ad (24))), (1, .int (nI (k))), (2, .int (b)), (3, .int (nI (od)))]) hB hm dc_M_sort_32 rfl (by decide) rfl ?_
          refine y_aload_n (pc' := 35) hB dc_M_sort_34 rfl rfl 1 rfl ?_
          refine y_iload_n (pc' := 36) hB dc_M_sort_35 rfl rfl 3 rfl ?_
          refine y_if_lt (x := b) (pc' := 39) (tg := 56) hB dc_M_sort_36 rfl rfl (fun c1 => ?_) (fun c1 => ?_)
          · refine y_iconst (v := nI 2) (pc' := 57) hB dc_M_sort_56 rfl rfl ?_
            refine y_goto (tg := 61) hB dc_M_sort_57 rfl ?_
            refine p_M_code (pc' := 64) hB dc_M_sort_61 rfl q_639 ?_
            show yW o (yx (yx S 0) 2) 64 [(4, .int (nI (1))), (0, .ref (o.G.ad (24))), (1, .int (nI (k))), (2, .int (b)), (3, .int (nI (od)))] []
            rw [yx_yx]
            refine y_aload_n (pc' := 65) hB dc_M_sort_64 rfl rfl 1 rfl ?_
            refine f_M_code (pc' := 68) hB dc_M_sort_65 rfl q_639 ?_
            refine y_topi (y := nI (2)) (yx_c S 2) ?_
            refine n_if_le (pc' := 71) (tg := 72) hB dc_M_sort_68 rfl rfl (by omega) (fun bz => ?_) (fun bz => ?_)
            · omega
            · exact y_vret hB hE dc_M_sort_71 ⟨rfl, rfl⟩
          · refine y_iload_n (pc' := 40) hB dc_M_sort_39 rfl rfl 3 rfl ?_
            refine y_bipush (v := nI 6) (pc' := 42) hB dc_M_sort_40 rfl (by decide) ?_
            refine y_icmp_gt (x := b) (y := nI (6)) (pc' := 45) (tg := 56) hB dc_M_sort_42 rfl rfl (fun c2 => ?_) (fun c2 => ?_)
            · refine y_iconst (v := nI 2) (pc' := 57) hB dc_M_sort_56 rfl rfl ?_
              refine y_goto (tg := 61) hB dc_M_sort_57 rfl ?_
              refine p_M_code (pc' := 64) hB dc_M_sort_61 rfl q_639 ?_
              show yW o (yx (yx S 0) 2) 64 [(4, .int (nI (1))), (0, .ref (o.G.ad (24))), (1, .int (nI (k))), (2, .int (b)), (3, .int (nI (od)))] []
              rw [yx_yx]
              refine y_aload_n (pc' := 65) hB dc_M_sort_64 rfl rfl 1 rfl ?_
              refine f_M_code (pc' := 68) hB dc_M_sort_65 rfl q_639 ?_
              refine y_topi (y := nI (2)) (yx_c S 2) ?_
              refine n_if_le (pc' := 71) (tg := 72) hB dc_M_sort_68 rfl rfl (by omega) (fun bz => ?_) (fun bz => ?_)
              · omega
              · exact y_vret hB hE dc_M_sort_71 ⟨rfl, rfl⟩
            · exact absurd ⟨c1, Int32.not_lt.mp c2⟩ h
    · exact absurd rfl b50
set_option maxHeartbeats 4000000 in
set_option maxRecDepth 100000 in
theorem ct_M_sort_six (l : Launch) (g : YG) (S : YS) (k od : Nat) (hk : k < 4) (ho : od < 8) (h : ¬ (od = 0 ∨ od = 1 ∨ od = 2 ∨ od = 5)) : yC l mn_M_sort mb_M_sort 5 none 5 g [.ref (g.ad (24)), .int (nI (k)), .int (nI (6)), .int (nI (od))] S (fun v S' => v = none ∧ S' = yx S 2) := by
  refine yC_of (by decide) (Nat.le_of_ble_eq_true rfl) ?_
  intro o hl hg hB0 hE
  subst hl
  subst hg
  have hB : yB o mb_M_sort "OrderBenchModel" := hB0
  have hm := hE.1
  show yW o (S) 0 [(0, .ref (o.G.ad (24))), (1, .int (nI (k))), (2, .int (nI (6))), (3, .int (nI (od)))] []
  refine y_aload_n (pc' := 1) hB dc_M_sort_0 rfl rfl 0 rfl ?_
  refine y_iload_n (pc' := 2) hB dc_M_sort_1 rfl rfl 1 rfl ?_
  refine y_callV (c := 24) (ci := 4) (As := [.int (nI (k))]) (rest := []) (pc' := 5) hB hE (ct_M_noRow o.l o.G (S) (nI k) (zgr_of hk)) mm_M_noRow q_672 q_674 qs_12 (by decide) rfl rfl dc_M_sort_2 rfl (by decide) rfl rfl (Nat.le_of_ble_eq_true rfl) (fun v S' hpost => ?_)
  obtain ⟨rfl, hSS⟩ := hpost
  rw [hSS]
  clear hSS S'
  show yW o (yx S 0) 5 [(0, .ref (o.G.ad (24))), (1, .int (nI (k))), (2, .int (nI (6))), (3, .int (nI (od)))] [.int (0)]
  refine y_if_ne (x := 0) (pc' := 8) (tg := 16) hB dc_M_sort_5 rfl rfl (fun b51 => ?_) (fun b51 => ?_)
  · exact absurd rfl b51
  · skip
    refine y_aload_n (pc' := 9) hB dc_M_sort_8 rfl rfl 0 rfl ?_
    refine y_iload_n (pc' := 10) hB dc_M_sort_9 rfl rfl 3 rfl ?_
    refine y_callV (c := 24) (ci := 4) (As := [.int (nI (od))]) (rest := []) (pc' := 13) hB hE (ct_M_noOrder o.l o.G (yx S 0) (nI od) (zgo_of ho)) mm_M_noOrder q_720 q_722 qs_14 (by decide) rfl rfl dc_M_sort_10 rfl (by decide) rfl rfl (Nat.le_of_ble_eq_true rfl) (fun v S' hpost => ?_)
    obtain ⟨rfl, hSS⟩ := hpost
    rw [hSS]
    clear hSS S'
    show yW o (yx (yx S 0) 0) 13 [(0, .ref (o.G.ad (24))), (1, .int (nI (k))), (2, .int (nI (6))), (3, .int (nI (od)))] [.int (0)]
    rw [yx_yx]
    refine y_if_eq (x := 0) (pc' := 16) (tg := 17) hB dc_M_sort_13 rfl rfl (fun b52 => ?_) (fun b52 => ?_)
    · skip
      refine y_iload_n (pc' := 18) hB dc_M_sort_17 rfl rfl 3 rfl ?_
      refine y_iconst (v := nI 3) (pc' := 19) hB dc_M_sort_18 rfl rfl ?_
      refine n_icmp_lt (pc' := 22) (tg := 27) hB dc_M_sort_19 rfl rfl (by omega) (by omega) (fun b1 => ?_) (fun b1 => ?_)
      · omega
      · refine y_iload_n (pc' := 23) hB dc_M_sort_22 rfl rfl 3 rfl ?_
        refine y_iconst (v := nI 5) (pc' := 24) hB dc_M_sort_23 rfl rfl ?_
        refine n_icmp_ne (pc' := 27) (tg := 31) hB dc_M_sort_24 rfl rfl (by omega) (by omega) (fun b2 => ?_) (fun b2 => ?_)
        · refine y_iconst (v := nI 0) (pc' := 32) hB dc_M_sort_31 rfl rfl ?_
          refine y_istore (pc' := 34) (lv' := [(4, .int (nI (0))), (0, .ref (o.G.ad (24))), (1, .int (nI (k))), (2, .int (nI (6))), (3, .int (nI (od)))]) hB hm dc_M_sort_32 rfl (by decide) rfl ?_
          refine y_aload_n (pc' := 35) hB dc_M_sort_34 rfl rfl 1 rfl ?_
          refine y_iload_n (pc' := 36) hB dc_M_sort_35 rfl rfl 3 rfl ?_
          refine n_if_lt (pc' := 39) (tg := 56) hB dc_M_sort_36 rfl rfl (by omega) ?_
          refine y_iload_n (pc' := 40) hB dc_M_sort_39 rfl rfl 3 rfl ?_
          refine y_bipush (v := nI 6) (pc' := 42) hB dc_M_sort_40 rfl (by decide) ?_
          refine n_icmp_gt (pc' := 45) (tg := 56) hB dc_M_sort_42 rfl rfl (by omega) (by omega) (fun c1 => ?_) (fun c1 => ?_)
          · omega
          · refine y_iload_n (pc' := 46) hB dc_M_sort_45 rfl rfl 3 rfl ?_
            refine y_bipush (v := nI 6) (pc' := 48) hB dc_M_sort_46 rfl (by decide) ?_
            refine n_icmp_ne (pc' := 51) (tg := 60) hB dc_M_sort_48 rfl rfl (by omega) (by omega) (fun c2 => ?_) (fun c2 => ?_)
            · omega
            · refine y_iload (pc' := 53) hB dc_M_sort_51 rfl 0 rfl ?_
              refine n_if_ne (pc' := 56) (tg := 60) hB dc_M_sort_53 rfl rfl (by omega) (fun c3 => ?_) (fun c3 => ?_)
              · omega
              · refine y_iconst (v := nI 2) (pc' := 57) hB dc_M_sort_56 rfl rfl ?_
                refine y_goto (tg := 61) hB dc_M_sort_57 rfl ?_
                refine p_M_code (pc' := 64) hB dc_M_sort_61 rfl q_639 ?_
                show yW o (yx (yx S 0) 2) 64 [(4, .int (nI (0))), (0, .ref (o.G.ad (24))), (1, .int (nI (k))), (2, .int (nI (6))), (3, .int (nI (od)))] []
                rw [yx_yx]
                refine y_aload_n (pc' := 65) hB dc_M_sort_64 rfl rfl 1 rfl ?_
                refine f_M_code (pc' := 68) hB dc_M_sort_65 rfl q_639 ?_
                refine y_topi (y := nI (2)) (yx_c S 2) ?_
                refine n_if_le (pc' := 71) (tg := 72) hB dc_M_sort_68 rfl rfl (by omega) (fun bz => ?_) (fun bz => ?_)
                · omega
                · exact y_vret hB hE dc_M_sort_71 ⟨rfl, rfl⟩
        · omega
    · exact absurd rfl b52
set_option maxHeartbeats 4000000 in
set_option maxRecDepth 100000 in
theorem ct_M_single_state (l : Launch) (g : YG) (S : YS) (k n : Nat) (hk : k < 4) (hn : n ≤ 1024) (hc : gI S 27 k = nI n) (od : Nat) (ho : od < 8) (h : ¬ zo (zq od false) (zs (ze4 S k) 0 n)) : yC l mn_M_single mb_M_single 6 (some .int) 5 g [.ref (g.ad (24)), .int (nI (k)), .int (nI (od))] S (fun v S' => v = some (.int (nI 0)) ∧ S' = yx S 3) := by
  refine yC_of (by decide) (Nat.le_of_ble_eq_true rfl) ?_
  intro o hl hg hB0 hE
  subst hl
  subst hg
  have hB : yB o mb_M_single "OrderBenchModel" := hB0
  have hm := hE.1
  show yW o (S) 0 [(0, .ref (o.G.ad (24))), (1, .int (nI (k))), (2, .int (nI (od)))] []
  refine y_aload_n (pc' := 1) hB dc_M_single_0 rfl rfl 0 rfl ?_
  refine y_iload_n (pc' := 2) hB dc_M_single_1 rfl rfl 1 rfl ?_
  refine y_callV (c := 24) (ci := 4) (As := [.int (nI (k))]) (rest := []) (pc' := 5) hB hE (ct_M_noRow o.l o.G (S) (nI k) (zgr_of hk)) mm_M_noRow q_672 q_674 qs_12 (by decide) rfl rfl dc_M_single_2 rfl (by decide) rfl rfl (Nat.le_of_ble_eq_true rfl) (fun v S' hpost => ?_)
  obtain ⟨rfl, hSS⟩ := hpost
  rw [hSS]
  clear hSS S'
  show yW o (yx S 0) 5 [(0, .ref (o.G.ad (24))), (1, .int (nI (k))), (2, .int (nI (od)))] [.int (0)]
  refine y_if_ne (x := 0) (pc' := 8) (tg := 16) hB dc_M_single_5 rfl rfl (fun b53 => ?_) (fun b53 => ?_)
  · exact absurd rfl b53
  · skip
    refine y_aload_n (pc' := 9) hB dc_M_single_8 rfl rfl 0 rfl ?_
    refine y_iload_n (pc' := 10) hB dc_M_single_9 rfl rfl 2 rfl ?_
    refine y_callV (c := 24) (ci := 4) (As := [.int (nI (od))]) (rest := []) (pc' := 13) hB hE (ct_M_noOrder o.l o.G (yx S 0) (nI od) (zgo_of ho)) mm_M_noOrder q_720 q_722 qs_14 (by decide) rfl rfl dc_M_single_10 rfl (by decide) rfl rfl (Nat.le_of_ble_eq_true rfl) (fun v S' hpost => ?_)
    obtain ⟨rfl, hSS⟩ := hpost
    rw [hSS]
    clear hSS S'
    show yW o (yx (yx S 0) 0) 13 [(0, .ref (o.G.ad (24))), (1, .int (nI (k))), (2, .int (nI (od)))] [.int (0)]
    rw [yx_yx]
    refine y_if_eq (x := 0) (pc' := 16) (tg := 18) hB dc_M_single_13 rfl rfl (fun b54 => ?_) (fun b54 => ?_)
    · skip
      refine y_aload_n (pc' := 19) hB dc_M_single_18 rfl rfl 0 rfl ?_
      refine y_aload_n (pc' := 20) hB dc_M_single_19 rfl rfl 0 rfl ?_
      refine y_iload_n (pc' := 21) hB dc_M_single_20 rfl rfl 1 rfl ?_
      refine y_iload_n (pc' := 22) hB dc_M_single_21 rfl rfl 2 rfl ?_
      refine y_callV (c := 24) (ci := 4) (As := [.int (nI (k)), .int (nI (od))]) (rest := [.ref (o.G.ad (24))]) (pc' := 25) hB hE (ct_M_inOrder o.l o.G (yx S 0) k n hk hn hc od ho) mm_M_inOrder q_769 q_771 qs_20 (by decide) rfl rfl dc_M_single_22 rfl (by decide) rfl rfl (Nat.le_of_ble_eq_true rfl) (fun v S' hpost => ?_)
      obtain ⟨bo, rfl, rfl, hbo⟩ := hpost
      show yW o (yx S 0) 25 [(0, .ref (o.G.ad (24))), (1, .int (nI (k))), (2, .int (nI (od)))] [.int (yb bo), .ref (o.G.ad (24))]
      refine y_if_eq (x := yb bo) (pc' := 28) (tg := 32) hB dc_M_single_25 rfl rfl (fun b1 => ?_) (fun b1 => ?_)
      · refine y_iconst (v := nI 3) (pc' := 33) hB dc_M_single_32 rfl rfl ?_
        refine p_M_code (pc' := 36) hB dc_M_single_33 rfl q_639 ?_
        show yW o (yx (yx S 0) 3) 36 [(0, .ref (o.G.ad (24))), (1, .int (nI (k))), (2, .int (nI (od)))] []
        rw [yx_yx]
        refine y_aload_n (pc' := 37) hB dc_M_single_36 rfl rfl 0 rfl ?_
        refine f_M_code (pc' := 40) hB dc_M_single_37 rfl q_639 ?_
        refine y_topi (y := nI (3)) (yx_c S 3) ?_
        refine n_if_le (pc' := 43) (tg := 45) hB dc_M_single_40 rfl rfl (by omega) (fun bz => ?_) (fun bz => ?_)
        · omega
        · refine y_iconst (v := nI 0) (pc' := 44) hB dc_M_single_43 rfl rfl ?_
          exact y_iret hB hE dc_M_single_44 ⟨rfl, rfl⟩
      · exact absurd (hbo.mp (yb_n.mp b1)) h
    · exact absurd rfl b54
set_option maxHeartbeats 4000000 in
set_option maxRecDepth 100000 in
theorem ct_M_find_state (l : Launch) (g : YG) (S : YS) (k n : Nat) (hk : k < 4) (hn : n ≤ 1024) (hc : gI S 27 k = nI n) (od : Nat) (ho : od < 8) (c : Int64) (d : Int32) (h : ¬ zo (zq od false) (zs (ze4 S k) 0 n)) : yC l mn_M_find mb_M_find 10 (some .int) 5 g [.ref (g.ad (24)), .int (nI (k)), .int (nI (od)), .long (c), .int (d)] S (fun v S' => v = some (.int (nI 0)) ∧ S' = yx S 3) := by
  refine yC_of (by decide) (Nat.le_of_ble_eq_true rfl) ?_
  intro o hl hg hB0 hE
  subst hl
  subst hg
  have hB : yB o mb_M_find "OrderBenchModel" := hB0
  have hm := hE.1
  show yW o (S) 0 [(0, .ref (o.G.ad (24))), (1, .int (nI (k))), (2, .int (nI (od))), (3, .long (c)), (5, .int (d))] []
  refine y_aload_n (pc' := 1) hB dc_M_find_0 rfl rfl 0 rfl ?_
  refine y_iload_n (pc' := 2) hB dc_M_find_1 rfl rfl 1 rfl ?_
  refine y_callV (c := 24) (ci := 4) (As := [.int (nI (k))]) (rest := []) (pc' := 5) hB hE (ct_M_noRow o.l o.G (S) (nI k) (zgr_of hk)) mm_M_noRow q_672 q_674 qs_12 (by decide) rfl rfl dc_M_find_2 rfl (by decide) rfl rfl (Nat.le_of_ble_eq_true rfl) (fun v S' hpost => ?_)
  obtain ⟨rfl, hSS⟩ := hpost
  rw [hSS]
  clear hSS S'
  show yW o (yx S 0) 5 [(0, .ref (o.G.ad (24))), (1, .int (nI (k))), (2, .int (nI (od))), (3, .long (c)), (5, .int (d))] [.int (0)]
  refine y_if_ne (x := 0) (pc' := 8) (tg := 16) hB dc_M_find_5 rfl rfl (fun b55 => ?_) (fun b55 => ?_)
  · exact absurd rfl b55
  · skip
    refine y_aload_n (pc' := 9) hB dc_M_find_8 rfl rfl 0 rfl ?_
    refine y_iload_n (pc' := 10) hB dc_M_find_9 rfl rfl 2 rfl ?_
    refine y_callV (c := 24) (ci := 4) (As := [.int (nI (od))]) (rest := []) (pc' := 13) hB hE (ct_M_noOrder o.l o.G (yx S 0) (nI od) (zgo_of ho)) mm_M_noOrder q_720 q_722 qs_14 (by decide) rfl rfl dc_M_find_10 rfl (by decide) rfl rfl (Nat.le_of_ble_eq_true rfl) (fun v S' hpost => ?_)
    obtain ⟨rfl, hSS⟩ := hpost
    rw [hSS]
    clear hSS S'
    show yW o (yx (yx S 0) 0) 13 [(0, .ref (o.G.ad (24))), (1, .int (nI (k))), (2, .int (nI (od))), (3, .long (c)), (5, .int (d))] [.int (0)]
    rw [yx_yx]
    refine y_if_eq (x := 0) (pc' := 16) (tg := 18) hB dc_M_find_13 rfl rfl (fun b56 => ?_) (fun b56 => ?_)
    · skip
      refine y_aload_n (pc' := 19) hB dc_M_find_18 rfl rfl 0 rfl ?_
      refine y_aload_n (pc' := 20) hB dc_M_find_19 rfl rfl 0 rfl ?_
      refine y_iload_n (pc' := 21) hB dc_M_find_20 rfl rfl 1 rfl ?_
      refine y_iload_n (pc' := 22) hB dc_M_find_21 rfl rfl 2 rfl ?_
      refine y_callV (c := 24) (ci := 4) (As := [.int (nI (k)), .int (nI (od))]) (rest := [.ref (o.G.ad (24))]) (pc' := 25) hB hE (ct_M_inOrder o.l o.G (yx S 0) k n hk hn hc od ho) mm_M_inOrder q_769 q_771 qs_20 (by decide) rfl rfl dc_M_find_22 rfl (by decide) rfl rfl (Nat.le_of_ble_eq_true rfl) (fun v S' hpost => ?_)
      obtain ⟨bo, rfl, rfl, hbo⟩ := hpost
      show yW o (yx S 0) 25 [(0, .ref (o.G.ad (24))), (1, .int (nI (k))), (2, .int (nI (od))), (3, .long (c)), (5, .int (d))] [.int (yb bo), .ref (o.G.ad (24))]
      refine y_if_eq (x := yb bo) (pc' := 28) (tg := 32) hB dc_M_find_25 rfl rfl (fun b1 => ?_) (fun b1 => ?_)
      · refine y_iconst (v := nI 3) (pc' := 33) hB dc_M_find_32 rfl rfl ?_
        refine p_M_code (pc' := 36) hB dc_M_find_33 rfl q_639 ?_
        show yW o (yx (yx S 0) 3) 36 [(0, .ref (o.G.ad (24))), (1, .int (nI (k))), (2, .int (nI (od))), (3, .long (c)), (5, .int (d))] []
        rw [yx_yx]
        refine y_iconst (v := nI 0) (pc' := 37) hB dc_M_find_36 rfl rfl ?_
        refine y_istore (pc' := 39) (lv' := [(6, .int (nI (0))), (0, .ref (o.G.ad (24))), (1, .int (nI (k))), (2, .int (nI (od))), (3, .long (c)), (5, .int (d))]) hB hm dc_M_find_37 rfl (by decide) rfl ?_
        refine y_iconst (v := nI 0) (pc' := 40) hB dc_M_find_39 rfl rfl ?_
        refine y_istore (pc' := 42) (lv' := [(7, .int (nI (0))), (6, .int (nI (0))), (0, .ref (o.G.ad (24))), (1, .int (nI (k))), (2, .int (nI (od))), (3, .long (c)), (5, .int (d))]) hB hm dc_M_find_40 rfl (by decide) rfl ?_
        refine y_iload (pc' := 44) hB dc_M_find_42 rfl 0 rfl ?_
        refine y_aload_n (pc' := 45) hB dc_M_find_44 rfl rfl 2 rfl ?_
        refine f_M_sizes (pc' := 48) hB dc_M_find_45 rfl q_642 ?_
        refine y_iload_n (pc' := 49) hB dc_M_find_48 rfl rfl 3 rfl ?_
        refine y_iald (c := 27) (n := 4) (j := k) (pc' := 50) hB dc_M_find_49 rfl (by decide) rfl (by omega) (by decide) ?_
        refine y_topi (y := nI (n)) (hc) ?_
        refine n_icmp_ge (pc' := 53) (tg := 117) hB dc_M_find_50 rfl rfl (by omega) (by omega) (fun b2 => ?_) (fun b2 => ?_)
        · refine y_iload (pc' := 119) hB dc_M_find_117 rfl 1 rfl ?_
          exact y_iret hB hE dc_M_find_119 ⟨rfl, rfl⟩
        · refine y_aload_n (pc' := 54) hB dc_M_find_53 rfl rfl 2 rfl ?_
          refine f_M_code (pc' := 57) hB dc_M_find_54 rfl q_639 ?_
          refine y_topi (y := nI (3)) (yx_c S 3) ?_
          refine n_if_ne (pc' := 60) (tg := 117) hB dc_M_find_57 rfl rfl (by omega) (fun b3 => ?_) (fun b3 => ?_)
          · refine y_iload (pc' := 119) hB dc_M_find_117 rfl 1 rfl ?_
            exact y_iret hB hE dc_M_find_119 ⟨rfl, rfl⟩
          · omega
      · exact absurd (hbo.mp (yb_n.mp b1)) h
    · exact absurd rfl b56
set_option maxHeartbeats 4000000 in
set_option maxRecDepth 100000 in
theorem ct_M_merge_b (l : Launch) (g : YG) (S : YS) (k : Nat) (hk : k < 4) (b : Int32) (c : Int32) (d : Int32) (h : ¬ zgr b) : yC l mn_M_merge mb_M_merge 5 (some .int) 5 g [.ref (g.ad (24)), .int (nI (k)), .int (b), .int (c), .int (d)] S (fun v S' => v = some (.int (nI 0)) ∧ S' = yx S 1) := by
  refine yC_of (by decide) (Nat.le_of_ble_eq_true rfl) ?_
  intro o hl hg hB0 hE
  subst hl
  subst hg
  have hB : yB o mb_M_merge "OrderBenchModel" := hB0
  have hm := hE.1
  show yW o (S) 0 [(0, .ref (o.G.ad (24))), (1, .int (nI (k))), (2, .int (b)), (3, .int (c)), (4, .int (d))] []
  refine y_aload_n (pc' := 1) hB dc_M_merge_0 rfl rfl 0 rfl ?_
  refine y_iload_n (pc' := 2) hB dc_M_merge_1 rfl rfl 1 rfl ?_
  refine y_callV (c := 24) (ci := 4) (As := [.int (nI (k))]) (rest := []) (pc' := 5) hB hE (ct_M_noRow o.l o.G (S) (nI k) (zgr_of hk)) mm_M_noRow q_672 q_674 qs_12 (by decide) rfl rfl dc_M_merge_2 rfl (by decide) rfl rfl (Nat.le_of_ble_eq_true rfl) (fun v S' hpost => ?_)
  obtain ⟨rfl, hSS⟩ := hpost
  rw [hSS]
  clear hSS S'
  show yW o (yx S 0) 5 [(0, .ref (o.G.ad (24))), (1, .int (nI (k))), (2, .int (b)), (3, .int (c)), (4, .int (d))] [.int (0)]
  refine y_if_ne (x := 0) (pc' := 8) (tg := 33) hB dc_M_merge_5 rfl rfl (fun b57 => ?_) (fun b57 => ?_)
  · exact absurd rfl b57
  · skip
    refine y_aload_n (pc' := 9) hB dc_M_merge_8 rfl rfl 0 rfl ?_
    refine y_iload_n (pc' := 10) hB dc_M_merge_9 rfl rfl 2 rfl ?_
    refine y_callV (c := 24) (ci := 4) (As := [.int (b)]) (rest := []) (pc' := 13) hB hE (ct_M_noRowX o.l o.G (yx S 0) b h) mm_M_noRow q_672 q_674 qs_12 (by decide) rfl rfl dc_M_merge_10 rfl (by decide) rfl rfl (Nat.le_of_ble_eq_true rfl) (fun v S' hpost => ?_)
    obtain ⟨rfl, hSS⟩ := hpost
    rw [hSS]
    clear hSS S'
    show yW o (yx (yx S 0) 1) 13 [(0, .ref (o.G.ad (24))), (1, .int (nI (k))), (2, .int (b)), (3, .int (c)), (4, .int (d))] [.int (1)]
    rw [yx_yx]
    refine y_if_ne (x := 1) (pc' := 16) (tg := 33) hB dc_M_merge_13 rfl rfl (fun b58 => ?_) (fun b58 => ?_)
    · skip
      refine y_iconst (v := nI 0) (pc' := 34) hB dc_M_merge_33 rfl rfl ?_
      exact y_iret hB hE dc_M_merge_34 ⟨rfl, rfl⟩
    · exact absurd b58 (by decide)
set_option maxHeartbeats 4000000 in
set_option maxRecDepth 100000 in
theorem ct_M_merge_to (l : Launch) (g : YG) (S : YS) (k q : Nat) (hk : k < 4) (hq : q < 4) (c d : Int32) (h : ¬ zgr c) : yC l mn_M_merge mb_M_merge 5 (some .int) 5 g [.ref (g.ad (24)), .int (nI (k)), .int (nI (q)), .int (c), .int (d)] S (fun v S' => v = some (.int (nI 0)) ∧ S' = yx S 1) := by
  refine yC_of (by decide) (Nat.le_of_ble_eq_true rfl) ?_
  intro o hl hg hB0 hE
  subst hl
  subst hg
  have hB : yB o mb_M_merge "OrderBenchModel" := hB0
  have hm := hE.1
  show yW o (S) 0 [(0, .ref (o.G.ad (24))), (1, .int (nI (k))), (2, .int (nI (q))), (3, .int (c)), (4, .int (d))] []
  refine y_aload_n (pc' := 1) hB dc_M_merge_0 rfl rfl 0 rfl ?_
  refine y_iload_n (pc' := 2) hB dc_M_merge_1 rfl rfl 1 rfl ?_
  refine y_callV (c := 24) (ci := 4) (As := [.int (nI (k))]) (rest := []) (pc' := 5) hB hE (ct_M_noRow o.l o.G (S) (nI k) (zgr_of hk)) mm_M_noRow q_672 q_674 qs_12 (by decide) rfl rfl dc_M_merge_2 rfl (by decide) rfl rfl (Nat.le_of_ble_eq_true rfl) (fun v S' hpost => ?_)
  obtain ⟨rfl, hSS⟩ := hpost
  rw [hSS]
  clear hSS S'
  show yW o (yx S 0) 5 [(0, .ref (o.G.ad (24))), (1, .int (nI (k))), (2, .int (nI (q))), (3, .int (c)), (4, .int (d))] [.int (0)]
  refine y_if_ne (x := 0) (pc' := 8) (tg := 33) hB dc_M_merge_5 rfl rfl (fun b59 => ?_) (fun b59 => ?_)
  · exact absurd rfl b59
  · skip
    refine y_aload_n (pc' := 9) hB dc_M_merge_8 rfl rfl 0 rfl ?_
    refine y_iload_n (pc' := 10) hB dc_M_merge_9 rfl rfl 2 rfl ?_
    refine y_callV (c := 24) (ci := 4) (As := [.int (nI (q))]) (rest := []) (pc' := 13) hB hE (ct_M_noRow o.l o.G (yx S 0) (nI q) (zgr_of hq)) mm_M_noRow q_672 q_674 qs_12 (by decide) rfl rfl dc_M_merge_10 rfl (by decide) rfl rfl (Nat.le_of_ble_eq_true rfl) (fun v S' hpost => ?_)
    obtain ⟨rfl, hSS⟩ := hpost
    rw [hSS]
    clear hSS S'
    show yW o (yx (yx S 0) 0) 13 [(0, .ref (o.G.ad (24))), (1, .int (nI (k))), (2, .int (nI (q))), (3, .int (c)), (4, .int (d))] [.int (0)]
    rw [yx_yx]
    refine y_if_ne (x := 0) (pc' := 16) (tg := 33) hB dc_M_merge_13 rfl rfl (fun b60 => ?_) (fun b60 => ?_)
    · exact absurd rfl b60
    · skip
      refine y_aload_n (pc' := 17) hB dc_M_merge_16 rfl rfl 0 rfl ?_
      refine y_iload_n (pc' := 18) hB dc_M_merge_17 rfl rfl 3 rfl ?_
      refine y_callV (c := 24) (ci := 4) (As := [.int (c)]) (rest := []) (pc' := 21) hB hE (ct_M_noRowX o.l o.G (yx S 0) c h) mm_M_noRow q_672 q_674 qs_12 (by decide) rfl rfl dc_M_merge_18 rfl (by decide) rfl rfl (Nat.le_of_ble_eq_true rfl) (fun v S' hpost => ?_)
      obtain ⟨rfl, hSS⟩ := hpost
      rw [hSS]
      clear hSS S'
      show yW o (yx (yx S 0) 1) 21 [(0, .ref (o.G.ad (24))), (1, .int (nI (k))), (2, .int (nI (q))), (3, .int (c)), (4, .int (d))] [.int (1)]
      rw [yx_yx]
      refine y_if_ne (x := 1) (pc' := 24) (tg := 33) hB dc_M_merge_21 rfl rfl (fun b61 => ?_) (fun b61 => ?_)
      · skip
        refine y_iconst (v := nI 0) (pc' := 34) hB dc_M_merge_33 rfl rfl ?_
        exact y_iret hB hE dc_M_merge_34 ⟨rfl, rfl⟩
      · exact absurd b61 (by decide)
set_option maxHeartbeats 4000000 in
set_option maxRecDepth 100000 in
theorem ct_M_merge_order (l : Launch) (g : YG) (S : YS) (k q p : Nat) (hk : k < 4) (hq : q < 4) (hp : p < 4) (d : Int32) (h : ¬ zgo d) : yC l mn_M_merge mb_M_merge 5 (some .int) 5 g [.ref (g.ad (24)), .int (nI (k)), .int (nI (q)), .int (nI (p)), .int (d)] S (fun v S' => v = some (.int (nI 0)) ∧ S' = yx S 2) := by
  refine yC_of (by decide) (Nat.le_of_ble_eq_true rfl) ?_
  intro o hl hg hB0 hE
  subst hl
  subst hg
  have hB : yB o mb_M_merge "OrderBenchModel" := hB0
  have hm := hE.1
  show yW o (S) 0 [(0, .ref (o.G.ad (24))), (1, .int (nI (k))), (2, .int (nI (q))), (3, .int (nI (p))), (4, .int (d))] []
  refine y_aload_n (pc' := 1) hB dc_M_merge_0 rfl rfl 0 rfl ?_
  refine y_iload_n (pc' := 2) hB dc_M_merge_1 rfl rfl 1 rfl ?_
  refine y_callV (c := 24) (ci := 4) (As := [.int (nI (k))]) (rest := []) (pc' := 5) hB hE (ct_M_noRow o.l o.G (S) (nI k) (zgr_of hk)) mm_M_noRow q_672 q_674 qs_12 (by decide) rfl rfl dc_M_merge_2 rfl (by decide) rfl rfl (Nat.le_of_ble_eq_true rfl) (fun v S' hpost => ?_)
  obtain ⟨rfl, hSS⟩ := hpost
  rw [hSS]
  clear hSS S'
  show yW o (yx S 0) 5 [(0, .ref (o.G.ad (24))), (1, .int (nI (k))), (2, .int (nI (q))), (3, .int (nI (p))), (4, .int (d))] [.int (0)]
  refine y_if_ne (x := 0) (pc' := 8) (tg := 33) hB dc_M_merge_5 rfl rfl (fun b62 => ?_) (fun b62 => ?_)
  · exact absurd rfl b62
  · skip
    refine y_aload_n (pc' := 9) hB dc_M_merge_8 rfl rfl 0 rfl ?_
    refine y_iload_n (pc' := 10) hB dc_M_merge_9 rfl rfl 2 rfl ?_
    refine y_callV (c := 24) (ci := 4) (As := [.int (nI (q))]) (rest := []) (pc' := 13) hB hE (ct_M_noRow o.l o.G (yx S 0) (nI q) (zgr_of hq)) mm_M_noRow q_672 q_674 qs_12 (by decide) rfl rfl dc_M_merge_10 rfl (by decide) rfl rfl (Nat.le_of_ble_eq_true rfl) (fun v S' hpost => ?_)
    obtain ⟨rfl, hSS⟩ := hpost
    rw [hSS]
    clear hSS S'
    show yW o (yx (yx S 0) 0) 13 [(0, .ref (o.G.ad (24))), (1, .int (nI (k))), (2, .int (nI (q))), (3, .int (nI (p))), (4, .int (d))] [.int (0)]
    rw [yx_yx]
    refine y_if_ne (x := 0) (pc' := 16) (tg := 33) hB dc_M_merge_13 rfl rfl (fun b63 => ?_) (fun b63 => ?_)
    · exact absurd rfl b63
    · skip
      refine y_aload_n (pc' := 17) hB dc_M_merge_16 rfl rfl 0 rfl ?_
      refine y_iload_n (pc' := 18) hB dc_M_merge_17 rfl rfl 3 rfl ?_
      refine y_callV (c := 24) (ci := 4) (As := [.int (nI (p))]) (rest := []) (pc' := 21) hB hE (ct_M_noRow o.l o.G (yx S 0) (nI p) (zgr_of hp)) mm_M_noRow q_672 q_674 qs_12 (by decide) rfl rfl dc_M_merge_18 rfl (by decide) rfl rfl (Nat.le_of_ble_eq_true rfl) (fun v S' hpost => ?_)
      obtain ⟨rfl, hSS⟩ := hpost
      rw [hSS]
      clear hSS S'
      show yW o (yx (yx S 0) 0) 21 [(0, .ref (o.G.ad (24))), (1, .int (nI (k))), (2, .int (nI (q))), (3, .int (nI (p))), (4, .int (d))] [.int (0)]
      rw [yx_yx]
      refine y_if_ne (x := 0) (pc' := 24) (tg := 33) hB dc_M_merge_21 rfl rfl (fun b64 => ?_) (fun b64 => ?_)
      · exact absurd rfl b64
      · skip
        refine y_aload_n (pc' := 25) hB dc_M_merge_24 rfl rfl 0 rfl ?_
        refine y_iload (pc' := 27) hB dc_M_merge_25 rfl 4 rfl ?_
        refine y_callV (c := 24) (ci := 4) (As := [.int (d)]) (rest := []) (pc' := 30) hB hE (ct_M_noOrderX o.l o.G (yx S 0) d h) mm_M_noOrder q_720 q_722 qs_14 (by decide) rfl rfl dc_M_merge_27 rfl (by decide) rfl rfl (Nat.le_of_ble_eq_true rfl) (fun v S' hpost => ?_)
        obtain ⟨rfl, hSS⟩ := hpost
        rw [hSS]
        clear hSS S'
        show yW o (yx (yx S 0) 2) 30 [(0, .ref (o.G.ad (24))), (1, .int (nI (k))), (2, .int (nI (q))), (3, .int (nI (p))), (4, .int (d))] [.int (1)]
        rw [yx_yx]
        refine y_if_eq (x := 1) (pc' := 33) (tg := 35) hB dc_M_merge_30 rfl rfl (fun b65 => ?_) (fun b65 => ?_)
        · exact absurd b65 (by decide)
        · skip
          refine y_iconst (v := nI 0) (pc' := 34) hB dc_M_merge_33 rfl rfl ?_
          exact y_iret hB hE dc_M_merge_34 ⟨rfl, rfl⟩
set_option maxHeartbeats 4000000 in
set_option maxRecDepth 100000 in
theorem ct_M_merge_state (l : Launch) (g : YG) (S : YS) (k q p n m : Nat) (hk : k < 4) (hq : q < 4) (hp : p < 4) (hn : n ≤ 1024) (hm2 : m ≤ 1024) (hc : gI S 27 k = nI n) (hc2 : gI S 27 q = nI m) (od : Nat) (ho : od < 8) (h : ¬ (zo (zq od false) (zs (ze4 S k) 0 n) ∧ zo (zq od false) (zs (ze4 S q) 0 m) ∧ n + m ≤ 1024)) : yC l mn_M_merge mb_M_merge 5 (some .int) 5 g [.ref (g.ad (24)), .int (nI (k)), .int (nI (q)), .int (nI (p)), .int (nI (od))] S (fun v S' => v = some (.int (nI 0)) ∧ S' = yx S 3) := by
  refine yC_of (by decide) (Nat.le_of_ble_eq_true rfl) ?_
  intro o hl hg hB0 hE
  subst hl
  subst hg
  have hB : yB o mb_M_merge "OrderBenchModel" := hB0
  have hm := hE.1
  show yW o (S) 0 [(0, .ref (o.G.ad (24))), (1, .int (nI (k))), (2, .int (nI (q))), (3, .int (nI (p))), (4, .int (nI (od)))] []
  refine y_aload_n (pc' := 1) hB dc_M_merge_0 rfl rfl 0 rfl ?_
  refine y_iload_n (pc' := 2) hB dc_M_merge_1 rfl rfl 1 rfl ?_
  refine y_callV (c := 24) (ci := 4) (As := [.int (nI (k))]) (rest := []) (pc' := 5) hB hE (ct_M_noRow o.l o.G (S) (nI k) (zgr_of hk)) mm_M_noRow q_672 q_674 qs_12 (by decide) rfl rfl dc_M_merge_2 rfl (by decide) rfl rfl (Nat.le_of_ble_eq_true rfl) (fun v S' hpost => ?_)
  obtain ⟨rfl, hSS⟩ := hpost
  rw [hSS]
  clear hSS S'
  show yW o (yx S 0) 5 [(0, .ref (o.G.ad (24))), (1, .int (nI (k))), (2, .int (nI (q))), (3, .int (nI (p))), (4, .int (nI (od)))] [.int (0)]
  refine y_if_ne (x := 0) (pc' := 8) (tg := 33) hB dc_M_merge_5 rfl rfl (fun b66 => ?_) (fun b66 => ?_)
  · exact absurd rfl b66
  · skip
    refine y_aload_n (pc' := 9) hB dc_M_merge_8 rfl rfl 0 rfl ?_
    refine y_iload_n (pc' := 10) hB dc_M_merge_9 rfl rfl 2 rfl ?_
    refine y_callV (c := 24) (ci := 4) (As := [.int (nI (q))]) (rest := []) (pc' := 13) hB hE (ct_M_noRow o.l o.G (yx S 0) (nI q) (zgr_of hq)) mm_M_noRow q_672 q_674 qs_12 (by decide) rfl rfl dc_M_merge_10 rfl (by decide) rfl rfl (Nat.le_of_ble_eq_true rfl) (fun v S' hpost => ?_)
    obtain ⟨rfl, hSS⟩ := hpost
    rw [hSS]
    clear hSS S'
    show yW o (yx (yx S 0) 0) 13 [(0, .ref (o.G.ad (24))), (1, .int (nI (k))), (2, .int (nI (q))), (3, .int (nI (p))), (4, .int (nI (od)))] [.int (0)]
    rw [yx_yx]
    refine y_if_ne (x := 0) (pc' := 16) (tg := 33) hB dc_M_merge_13 rfl rfl (fun b67 => ?_) (fun b67 => ?_)
    · exact absurd rfl b67
    · skip
      refine y_aload_n (pc' := 17) hB dc_M_merge_16 rfl rfl 0 rfl ?_
      refine y_iload_n (pc' := 18) hB dc_M_merge_17 rfl rfl 3 rfl ?_
      refine y_callV (c := 24) (ci := 4) (As := [.int (nI (p))]) (rest := []) (pc' := 21) hB hE (ct_M_noRow o.l o.G (yx S 0) (nI p) (zgr_of hp)) mm_M_noRow q_672 q_674 qs_12 (by decide) rfl rfl dc_M_merge_18 rfl (by decide) rfl rfl (Nat.le_of_ble_eq_true rfl) (fun v S' hpost => ?_)
      obtain ⟨rfl, hSS⟩ := hpost
      rw [hSS]
      clear hSS S'
      show yW o (yx (yx S 0) 0) 21 [(0, .ref (o.G.ad (24))), (1, .int (nI (k))), (2, .int (nI (q))), (3, .int (nI (p))), (4, .int (nI (od)))] [.int (0)]
      rw [yx_yx]
      refine y_if_ne (x := 0) (pc' := 24) (tg := 33) hB dc_M_merge_21 rfl rfl (fun b68 => ?_) (fun b68 => ?_)
      · exact absurd rfl b68
      · skip
        refine y_aload_n (pc' := 25) hB dc_M_merge_24 rfl rfl 0 rfl ?_
        refine y_iload (pc' := 27) hB dc_M_merge_25 rfl 4 rfl ?_
        refine y_callV (c := 24) (ci := 4) (As := [.int (nI (od))]) (rest := []) (pc' := 30) hB hE (ct_M_noOrder o.l o.G (yx S 0) (nI od) (zgo_of ho)) mm_M_noOrder q_720 q_722 qs_14 (by decide) rfl rfl dc_M_merge_27 rfl (by decide) rfl rfl (Nat.le_of_ble_eq_true rfl) (fun v S' hpost => ?_)
        obtain ⟨rfl, hSS⟩ := hpost
        rw [hSS]
        clear hSS S'
        show yW o (yx (yx S 0) 0) 30 [(0, .ref (o.G.ad (24))), (1, .int (nI (k))), (2, .int (nI (q))), (3, .int (nI (p))), (4, .int (nI (od)))] [.int (0)]
        rw [yx_yx]
        refine y_if_eq (x := 0) (pc' := 33) (tg := 35) hB dc_M_merge_30 rfl rfl (fun b69 => ?_) (fun b69 => ?_)
        · skip
          refine y_aload_n (pc' := 36) hB dc_M_merge_35 rfl rfl 0 rfl ?_
          refine y_aload_n (pc' := 37) hB dc_M_merge_36 rfl rfl 0 rfl ?_
          refine y_iload_n (pc' := 38) hB dc_M_merge_37 rfl rfl 1 rfl ?_
          refine y_iload (pc' := 40) hB dc_M_merge_38 rfl 4 rfl ?_
          refine y_callV (c := 24) (ci := 4) (As := [.int (nI (k)), .int (nI (od))]) (rest := [.ref (o.G.ad (24))]) (pc' := 43) hB hE (ct_M_inOrder o.l o.G (yx S 0) k n hk hn hc od ho) mm_M_inOrder q_769 q_771 qs_20 (by decide) rfl rfl dc_M_merge_40 rfl (by decide) rfl rfl (Nat.le_of_ble_eq_true rfl) (fun v S' hpost => ?_)
          obtain ⟨bo, rfl, rfl, hbo⟩ := hpost
          show yW o (yx S 0) 43 [(0, .ref (o.G.ad (24))), (1, .int (nI (k))), (2, .int (nI (q))), (3, .int (nI (p))), (4, .int (nI (od)))] [.int (yb bo), .ref (o.G.ad (24))]
          refine y_if_eq (x := yb bo) (pc' := 46) (tg := 79) hB dc_M_merge_43 rfl rfl (fun b1 => ?_) (fun b1 => ?_)
          · refine y_iconst (v := nI 3) (pc' := 80) hB dc_M_merge_79 rfl rfl ?_
            refine p_M_code (pc' := 83) hB dc_M_merge_80 rfl q_639 ?_
            show yW o (yx (yx S 0) 3) 83 [(0, .ref (o.G.ad (24))), (1, .int (nI (k))), (2, .int (nI (q))), (3, .int (nI (p))), (4, .int (nI (od)))] []
            rw [yx_yx]
            refine y_aload_n (pc' := 84) hB dc_M_merge_83 rfl rfl 0 rfl ?_
            refine f_M_code (pc' := 87) hB dc_M_merge_84 rfl q_639 ?_
            refine y_topi (y := nI (3)) (yx_c S 3) ?_
            refine n_if_le (pc' := 90) (tg := 92) hB dc_M_merge_87 rfl rfl (by omega) (fun bz => ?_) (fun bz => ?_)
            · omega
            · refine y_iconst (v := nI 0) (pc' := 91) hB dc_M_merge_90 rfl rfl ?_
              exact y_iret hB hE dc_M_merge_91 ⟨rfl, rfl⟩
          · refine y_aload_n (pc' := 47) hB dc_M_merge_46 rfl rfl 0 rfl ?_
            refine y_iload_n (pc' := 48) hB dc_M_merge_47 rfl rfl 2 rfl ?_
            refine y_iload (pc' := 50) hB dc_M_merge_48 rfl 4 rfl ?_
            refine y_callV (c := 24) (ci := 4) (As := [.int (nI (q)), .int (nI (od))]) (rest := [.ref (o.G.ad (24))]) (pc' := 53) hB hE (ct_M_inOrder o.l o.G (yx S 0) q m hq hm2 hc2 od ho) mm_M_inOrder q_769 q_771 qs_20 (by decide) rfl rfl dc_M_merge_50 rfl (by decide) rfl rfl (Nat.le_of_ble_eq_true rfl) (fun v S' hpost => ?_)
            obtain ⟨bo2, rfl, rfl, hbo2⟩ := hpost
            show yW o (yx S 0) 53 [(0, .ref (o.G.ad (24))), (1, .int (nI (k))), (2, .int (nI (q))), (3, .int (nI (p))), (4, .int (nI (od)))] [.int (yb bo2), .ref (o.G.ad (24))]
            refine y_if_eq (x := yb bo2) (pc' := 56) (tg := 79) hB dc_M_merge_53 rfl rfl (fun b2 => ?_) (fun b2 => ?_)
            · refine y_iconst (v := nI 3) (pc' := 80) hB dc_M_merge_79 rfl rfl ?_
              refine p_M_code (pc' := 83) hB dc_M_merge_80 rfl q_639 ?_
              show yW o (yx (yx S 0) 3) 83 [(0, .ref (o.G.ad (24))), (1, .int (nI (k))), (2, .int (nI (q))), (3, .int (nI (p))), (4, .int (nI (od)))] []
              rw [yx_yx]
              refine y_aload_n (pc' := 84) hB dc_M_merge_83 rfl rfl 0 rfl ?_
              refine f_M_code (pc' := 87) hB dc_M_merge_84 rfl q_639 ?_
              refine y_topi (y := nI (3)) (yx_c S 3) ?_
              refine n_if_le (pc' := 90) (tg := 92) hB dc_M_merge_87 rfl rfl (by omega) (fun bz => ?_) (fun bz => ?_)
              · omega
              · refine y_iconst (v := nI 0) (pc' := 91) hB dc_M_merge_90 rfl rfl ?_
                exact y_iret hB hE dc_M_merge_91 ⟨rfl, rfl⟩
            · refine y_aload_n (pc' := 57) hB dc_M_merge_56 rfl rfl 0 rfl ?_
              refine f_M_sizes (pc' := 60) hB dc_M_merge_57 rfl q_642 ?_
              refine y_iload_n (pc' := 61) hB dc_M_merge_60 rfl rfl 1 rfl ?_
              refine y_iald (c := 27) (n := 4) (j := k) (pc' := 62) hB dc_M_merge_61 rfl (by decide) rfl (by omega) (by decide) ?_
              refine y_topi (y := nI (n)) (hc) ?_
              refine y_aload_n (pc' := 63) hB dc_M_merge_62 rfl rfl 0 rfl ?_
              refine f_M_sizes (pc' := 66) hB dc_M_merge_63 rfl q_642 ?_
              refine y_iload_n (pc' := 67) hB dc_M_merge_66 rfl rfl 2 rfl ?_
              refine y_iald (c := 27) (n := 4) (j := q) (pc' := 68) hB dc_M_merge_67 rfl (by decide) rfl (by omega) (by decide) ?_
              refine y_topi (y := nI (m)) (hc2) ?_
              refine n_iadd (x := n) (y := m) (pc' := 69) hB dc_M_merge_68 rfl ?_
              refine y_sipush (v := nI 1024) (pc' := 72) hB dc_M_merge_69 rfl (by decide) ?_
              refine n_icmp_gt (pc' := 75) (tg := 79) hB dc_M_merge_72 rfl rfl (by omega) (by omega) (fun b3 => ?_) (fun b3 => ?_)
              · refine y_iconst (v := nI 3) (pc' := 80) hB dc_M_merge_79 rfl rfl ?_
                refine p_M_code (pc' := 83) hB dc_M_merge_80 rfl q_639 ?_
                show yW o (yx (yx S 0) 3) 83 [(0, .ref (o.G.ad (24))), (1, .int (nI (k))), (2, .int (nI (q))), (3, .int (nI (p))), (4, .int (nI (od)))] []
                rw [yx_yx]
                refine y_aload_n (pc' := 84) hB dc_M_merge_83 rfl rfl 0 rfl ?_
                refine f_M_code (pc' := 87) hB dc_M_merge_84 rfl q_639 ?_
                refine y_topi (y := nI (3)) (yx_c S 3) ?_
                refine n_if_le (pc' := 90) (tg := 92) hB dc_M_merge_87 rfl rfl (by omega) (fun bz => ?_) (fun bz => ?_)
                · omega
                · refine y_iconst (v := nI 0) (pc' := 91) hB dc_M_merge_90 rfl rfl ?_
                  exact y_iret hB hE dc_M_merge_91 ⟨rfl, rfl⟩
              · exact absurd ⟨hbo.mp (yb_n.mp b1), hbo2.mp (yb_n.mp b2), by omega⟩ h
        · exact absurd rfl b69
