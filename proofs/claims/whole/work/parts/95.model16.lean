/-! REFERENCE: swap -/
theorem dc_M_swap_0 : decode mb_M_swap 0 = .ok (.aload_n 0, 1) := by decide +kernel
theorem dc_M_swap_1 : decode mb_M_swap 1 = .ok (.iload_n 1, 1) := by decide +kernel
theorem dc_M_swap_2 : decode mb_M_swap 2 = .ok (.iload_n 2, 1) := by decide +kernel
theorem dc_M_swap_3 : decode mb_M_swap 3 = .ok (.invokevirtual 66, 3) := by decide +kernel
theorem dc_M_swap_6 : decode mb_M_swap 6 = .ok (.ifCond .ne 12, 3) := by decide +kernel
theorem dc_M_swap_9 : decode mb_M_swap 9 = .ok (.aload_n 0, 1) := by decide +kernel
theorem dc_M_swap_10 : decode mb_M_swap 10 = .ok (.iload_n 1, 1) := by decide +kernel
theorem dc_M_swap_11 : decode mb_M_swap 11 = .ok (.iload_n 3, 1) := by decide +kernel
theorem dc_M_swap_12 : decode mb_M_swap 12 = .ok (.invokevirtual 66, 3) := by decide +kernel
theorem dc_M_swap_15 : decode mb_M_swap 15 = .ok (.ifCond .eq 4, 3) := by decide +kernel
theorem dc_M_swap_18 : decode mb_M_swap 18 = .ok (.return_, 1) := by decide +kernel
theorem dc_M_swap_19 : decode mb_M_swap 19 = .ok (.sipush 1024, 3) := by decide +kernel
theorem dc_M_swap_22 : decode mb_M_swap 22 = .ok (.iload_n 1, 1) := by decide +kernel
theorem dc_M_swap_23 : decode mb_M_swap 23 = .ok (.imul, 1) := by decide +kernel
theorem dc_M_swap_24 : decode mb_M_swap 24 = .ok (.iload_n 2, 1) := by decide +kernel
theorem dc_M_swap_25 : decode mb_M_swap 25 = .ok (.iadd, 1) := by decide +kernel
theorem dc_M_swap_26 : decode mb_M_swap 26 = .ok (.istore 4, 2) := by decide +kernel
theorem dc_M_swap_28 : decode mb_M_swap 28 = .ok (.sipush 1024, 3) := by decide +kernel
theorem dc_M_swap_31 : decode mb_M_swap 31 = .ok (.iload_n 1, 1) := by decide +kernel
theorem dc_M_swap_32 : decode mb_M_swap 32 = .ok (.imul, 1) := by decide +kernel
theorem dc_M_swap_33 : decode mb_M_swap 33 = .ok (.iload_n 3, 1) := by decide +kernel
theorem dc_M_swap_34 : decode mb_M_swap 34 = .ok (.iadd, 1) := by decide +kernel
theorem dc_M_swap_35 : decode mb_M_swap 35 = .ok (.istore 5, 2) := by decide +kernel
theorem dc_M_swap_37 : decode mb_M_swap 37 = .ok (.aload_n 0, 1) := by decide +kernel
theorem dc_M_swap_38 : decode mb_M_swap 38 = .ok (.getfield 7, 3) := by decide +kernel
theorem dc_M_swap_41 : decode mb_M_swap 41 = .ok (.iload 4, 2) := by decide +kernel
theorem dc_M_swap_43 : decode mb_M_swap 43 = .ok (.laload, 1) := by decide +kernel
theorem dc_M_swap_44 : decode mb_M_swap 44 = .ok (.lstore 6, 2) := by decide +kernel
theorem dc_M_swap_46 : decode mb_M_swap 46 = .ok (.aload_n 0, 1) := by decide +kernel
theorem dc_M_swap_47 : decode mb_M_swap 47 = .ok (.getfield 13, 3) := by decide +kernel
theorem dc_M_swap_50 : decode mb_M_swap 50 = .ok (.iload 4, 2) := by decide +kernel
theorem dc_M_swap_52 : decode mb_M_swap 52 = .ok (.iaload, 1) := by decide +kernel
theorem dc_M_swap_53 : decode mb_M_swap 53 = .ok (.istore 8, 2) := by decide +kernel
theorem dc_M_swap_55 : decode mb_M_swap 55 = .ok (.aload_n 0, 1) := by decide +kernel
theorem dc_M_swap_56 : decode mb_M_swap 56 = .ok (.getfield 7, 3) := by decide +kernel
theorem dc_M_swap_59 : decode mb_M_swap 59 = .ok (.iload 4, 2) := by decide +kernel
theorem dc_M_swap_61 : decode mb_M_swap 61 = .ok (.aload_n 0, 1) := by decide +kernel
theorem dc_M_swap_62 : decode mb_M_swap 62 = .ok (.getfield 7, 3) := by decide +kernel
theorem dc_M_swap_65 : decode mb_M_swap 65 = .ok (.iload 5, 2) := by decide +kernel
theorem dc_M_swap_67 : decode mb_M_swap 67 = .ok (.laload, 1) := by decide +kernel
theorem dc_M_swap_68 : decode mb_M_swap 68 = .ok (.lastore, 1) := by decide +kernel
theorem dc_M_swap_69 : decode mb_M_swap 69 = .ok (.aload_n 0, 1) := by decide +kernel
theorem dc_M_swap_70 : decode mb_M_swap 70 = .ok (.getfield 13, 3) := by decide +kernel
theorem dc_M_swap_73 : decode mb_M_swap 73 = .ok (.iload 4, 2) := by decide +kernel
theorem dc_M_swap_75 : decode mb_M_swap 75 = .ok (.aload_n 0, 1) := by decide +kernel
theorem dc_M_swap_76 : decode mb_M_swap 76 = .ok (.getfield 13, 3) := by decide +kernel
theorem dc_M_swap_79 : decode mb_M_swap 79 = .ok (.iload 5, 2) := by decide +kernel
theorem dc_M_swap_81 : decode mb_M_swap 81 = .ok (.iaload, 1) := by decide +kernel
theorem dc_M_swap_82 : decode mb_M_swap 82 = .ok (.iastore, 1) := by decide +kernel
theorem dc_M_swap_83 : decode mb_M_swap 83 = .ok (.aload_n 0, 1) := by decide +kernel
theorem dc_M_swap_84 : decode mb_M_swap 84 = .ok (.getfield 7, 3) := by decide +kernel
theorem dc_M_swap_87 : decode mb_M_swap 87 = .ok (.iload 5, 2) := by decide +kernel
theorem dc_M_swap_89 : decode mb_M_swap 89 = .ok (.lload 6, 2) := by decide +kernel
theorem dc_M_swap_91 : decode mb_M_swap 91 = .ok (.lastore, 1) := by decide +kernel
theorem dc_M_swap_92 : decode mb_M_swap 92 = .ok (.aload_n 0, 1) := by decide +kernel
theorem dc_M_swap_93 : decode mb_M_swap 93 = .ok (.getfield 13, 3) := by decide +kernel
theorem dc_M_swap_96 : decode mb_M_swap 96 = .ok (.iload 5, 2) := by decide +kernel
theorem dc_M_swap_98 : decode mb_M_swap 98 = .ok (.iload 8, 2) := by decide +kernel
theorem dc_M_swap_100 : decode mb_M_swap 100 = .ok (.iastore, 1) := by decide +kernel
theorem dc_M_swap_101 : decode mb_M_swap 101 = .ok (.return_, 1) := by decide +kernel
set_option maxHeartbeats 4000000 in
set_option maxRecDepth 100000 in
theorem ct_M_swap (l : Launch) (g : YG) (S : YS) (k n : Nat) (hk : k < 4) (hn : n ≤ 1024) (hc : gI S 27 k = nI n) (i j : Nat) (hi : i < n) (hj : j < n) : yC l mn_M_swap mb_M_swap 9 none 1 g [.ref (g.ad (24)), .int (nI (k)), .int (nI (i)), .int (nI (j))] S (fun v S' => v = none ∧ S' = mK (yx S 0) (vp_updL (vp_updL (gL S 25) (1024 * k + i) (gL S 25 (1024 * k + j))) (1024 * k + j) (gL S 25 (1024 * k + i))) (upd (upd (gI S 26) (1024 * k + i) (gI S 26 (1024 * k + j))) (1024 * k + j) (gI S 26 (1024 * k + i)))) := by
  refine yC_of (by decide) (Nat.le_of_ble_eq_true rfl) ?_
  intro o hl hg hB0 hE
  subst hl
  subst hg
  have hB : yB o mb_M_swap "OrderBenchModel" := hB0
  have hm := hE.1
  show yW o (S) 0 [(0, .ref (o.G.ad (24))), (1, .int (nI (k))), (2, .int (nI (i))), (3, .int (nI (j)))] []
  refine y_aload_n (pc' := 1) hB dc_M_swap_0 rfl rfl 0 rfl ?_
  refine y_iload_n (pc' := 2) hB dc_M_swap_1 rfl rfl 1 rfl ?_
  refine y_iload_n (pc' := 3) hB dc_M_swap_2 rfl rfl 2 rfl ?_
  refine y_callV (c := 24) (ci := 4) (As := [.int (nI (k)), .int (nI (i))]) (rest := []) (pc' := 6) hB hE (ct_M_noEntry o.l o.G S k n hk hn hc i hi) mm_M_noEntry q_692 q_694 qs_13 (by decide) rfl rfl dc_M_swap_3 rfl (by decide) rfl rfl (Nat.le_of_ble_eq_true rfl) (fun v S' hpost => ?_)
  obtain ⟨rfl, hSS⟩ := hpost
  rw [hSS]
  clear hSS S'
  show yW o (yx S 0) 6 [(0, .ref (o.G.ad (24))), (1, .int (nI (k))), (2, .int (nI (i))), (3, .int (nI (j)))] [.int (0)]
  refine y_if_ne (x := 0) (pc' := 9) (tg := 18) hB dc_M_swap_6 rfl rfl (fun b1 => ?_) (fun b1 => ?_)
  · exact absurd rfl b1
  · refine y_aload_n (pc' := 10) hB dc_M_swap_9 rfl rfl 0 rfl ?_
    refine y_iload_n (pc' := 11) hB dc_M_swap_10 rfl rfl 1 rfl ?_
    refine y_iload_n (pc' := 12) hB dc_M_swap_11 rfl rfl 3 rfl ?_
    refine y_callV (c := 24) (ci := 4) (As := [.int (nI (k)), .int (nI (j))]) (rest := []) (pc' := 15) hB hE (ct_M_noEntry o.l o.G (yx S 0) k n hk hn hc j hj) mm_M_noEntry q_692 q_694 qs_13 (by decide) rfl rfl dc_M_swap_12 rfl (by decide) rfl rfl (Nat.le_of_ble_eq_true rfl) (fun v S' hpost => ?_)
    obtain ⟨rfl, hSS⟩ := hpost
    rw [hSS]
    clear hSS S'
    show yW o (yx (yx S 0) 0) 15 [(0, .ref (o.G.ad (24))), (1, .int (nI (k))), (2, .int (nI (i))), (3, .int (nI (j)))] [.int (0)]
    rw [yx_yx]
    refine y_if_eq (x := 0) (pc' := 18) (tg := 19) hB dc_M_swap_15 rfl rfl (fun b2 => ?_) (fun b2 => ?_)
    · refine y_sipush (v := nI 1024) (pc' := 22) hB dc_M_swap_19 rfl (by decide) ?_
      refine y_iload_n (pc' := 23) hB dc_M_swap_22 rfl rfl 1 rfl ?_
      refine n_imul (x := 1024) (y := k) (pc' := 24) hB dc_M_swap_23 rfl ?_
      refine y_iload_n (pc' := 25) hB dc_M_swap_24 rfl rfl 2 rfl ?_
      refine n_iadd (x := 1024 * k) (y := i) (pc' := 26) hB dc_M_swap_25 rfl ?_
      refine y_istore (pc' := 28) (lv' := [(4, .int (nI ((1024 * k) + i))), (0, .ref (o.G.ad (24))), (1, .int (nI (k))), (2, .int (nI (i))), (3, .int (nI (j)))]) hB hm dc_M_swap_26 rfl (by decide) rfl ?_
      refine y_sipush (v := nI 1024) (pc' := 31) hB dc_M_swap_28 rfl (by decide) ?_
      refine y_iload_n (pc' := 32) hB dc_M_swap_31 rfl rfl 2 rfl ?_
      refine n_imul (x := 1024) (y := k) (pc' := 33) hB dc_M_swap_32 rfl ?_
      refine y_iload_n (pc' := 34) hB dc_M_swap_33 rfl rfl 4 rfl ?_
      refine n_iadd (x := 1024 * k) (y := j) (pc' := 35) hB dc_M_swap_34 rfl ?_
      refine y_istore (pc' := 37) (lv' := [(5, .int (nI ((1024 * k) + j))), (4, .int (nI ((1024 * k) + i))), (0, .ref (o.G.ad (24))), (1, .int (nI (k))), (2, .int (nI (i))), (3, .int (nI (j)))]) hB hm dc_M_swap_35 rfl (by decide) rfl ?_
      refine y_aload_n (pc' := 38) hB dc_M_swap_37 rfl rfl 2 rfl ?_
      refine f_M_keys (pc' := 41) hB dc_M_swap_38 rfl q_640 ?_
      refine y_iload (pc' := 43) hB dc_M_swap_41 rfl 1 rfl ?_
      refine y_lald (c := 25) (n := 4096) (j := (1024 * k) + i) (pc' := 44) hB dc_M_swap_43 rfl (by decide) rfl (by omega) (by decide) ?_
      refine y_topl (y := gL S 25 (1024 * k + i)) (rfl) ?_
      refine y_lstore (pc' := 46) (lv' := [(6, .long (gL S 25 (1024 * k + i))), (5, .int (nI ((1024 * k) + j))), (4, .int (nI ((1024 * k) + i))), (0, .ref (o.G.ad (24))), (1, .int (nI (k))), (2, .int (nI (i))), (3, .int (nI (j)))]) hB hm dc_M_swap_44 rfl (by decide) rfl ?_
      refine y_aload_n (pc' := 47) hB dc_M_swap_46 rfl rfl 3 rfl ?_
      refine f_M_tags (pc' := 50) hB dc_M_swap_47 rfl q_641 ?_
      refine y_iload (pc' := 52) hB dc_M_swap_50 rfl 2 rfl ?_
      refine y_iald (c := 26) (n := 4096) (j := (1024 * k) + i) (pc' := 53) hB dc_M_swap_52 rfl (by decide) rfl (by omega) (by decide) ?_
      refine y_topi (y := gI S 26 (1024 * k + i)) (rfl) ?_
      refine y_istore (pc' := 55) (lv' := [(8, .int (gI S 26 (1024 * k + i))), (6, .long (gL S 25 (1024 * k + i))), (5, .int (nI ((1024 * k) + j))), (4, .int (nI ((1024 * k) + i))), (0, .ref (o.G.ad (24))), (1, .int (nI (k))), (2, .int (nI (i))), (3, .int (nI (j)))]) hB hm dc_M_swap_53 rfl (by decide) rfl ?_
      refine y_aload_n (pc' := 56) hB dc_M_swap_55 rfl rfl 4 rfl ?_
      refine f_M_keys (pc' := 59) hB dc_M_swap_56 rfl q_640 ?_
      refine y_iload (pc' := 61) hB dc_M_swap_59 rfl 3 rfl ?_
      refine y_aload_n (pc' := 62) hB dc_M_swap_61 rfl rfl 4 rfl ?_
      refine f_M_keys (pc' := 65) hB dc_M_swap_62 rfl q_640 ?_
      refine y_iload (pc' := 67) hB dc_M_swap_65 rfl 2 rfl ?_
      refine y_lald (c := 25) (n := 4096) (j := (1024 * k) + j) (pc' := 68) hB dc_M_swap_67 rfl (by decide) rfl (by omega) (by decide) ?_
      refine y_topl (y := gL S 25 (1024 * k + j)) (rfl) ?_
      refine y_last (c := 25) (n := 4096) (j := (1024 * k) + i) (pc' := 69) hB dc_M_swap_68 rfl (by decide) rfl (by omega) (by decide) ?_
      refine y_aload_n (pc' := 70) hB dc_M_swap_69 rfl rfl 4 rfl ?_
      refine f_M_tags (pc' := 73) hB dc_M_swap_70 rfl q_641 ?_
      refine y_iload (pc' := 75) hB dc_M_swap_73 rfl 3 rfl ?_
      refine y_aload_n (pc' := 76) hB dc_M_swap_75 rfl rfl 4 rfl ?_
      refine f_M_tags (pc' := 79) hB dc_M_swap_76 rfl q_641 ?_
      refine y_iload (pc' := 81) hB dc_M_swap_79 rfl 2 rfl ?_
      refine y_iald (c := 26) (n := 4096) (j := (1024 * k) + j) (pc' := 82) hB dc_M_swap_81 rfl (by decide) rfl (by omega) (by decide) ?_
      refine y_topi (y := gI S 26 (1024 * k + j)) (rfl) ?_
      refine y_iast (c := 26) (n := 4096) (j := (1024 * k) + i) (pc' := 83) hB dc_M_swap_82 rfl (by decide) rfl (by omega) (by decide) ?_
      show yW o (mK (yx S 0) (vp_updL (gL S 25) (1024 * k + i) (gL S 25 (1024 * k + j))) (upd (gI S 26) (1024 * k + i) (gI S 26 (1024 * k + j)))) 83 [(8, .int (gI S 26 (1024 * k + i))), (6, .long (gL S 25 (1024 * k + i))), (5, .int (nI ((1024 * k) + j))), (4, .int (nI ((1024 * k) + i))), (0, .ref (o.G.ad (24))), (1, .int (nI (k))), (2, .int (nI (i))), (3, .int (nI (j)))] []
      refine y_aload_n (pc' := 84) hB dc_M_swap_83 rfl rfl 4 rfl ?_
      refine f_M_keys (pc' := 87) hB dc_M_swap_84 rfl q_640 ?_
      refine y_iload (pc' := 89) hB dc_M_swap_87 rfl 2 rfl ?_
      refine y_lload (pc' := 91) hB dc_M_swap_89 rfl 1 rfl ?_
      refine y_last (c := 25) (n := 4096) (j := (1024 * k) + j) (pc' := 92) hB dc_M_swap_91 rfl (by decide) rfl (by omega) (by decide) ?_
      refine y_aload_n (pc' := 93) hB dc_M_swap_92 rfl rfl 4 rfl ?_
      refine f_M_tags (pc' := 96) hB dc_M_swap_93 rfl q_641 ?_
      refine y_iload (pc' := 98) hB dc_M_swap_96 rfl 2 rfl ?_
      refine y_iload (pc' := 100) hB dc_M_swap_98 rfl 0 rfl ?_
      refine y_iast (c := 26) (n := 4096) (j := (1024 * k) + j) (pc' := 101) hB dc_M_swap_100 rfl (by decide) rfl (by omega) (by decide) ?_
      rw [gI_sL, mK_K, mK_T, mK_put]
      exact y_vret hB hE dc_M_swap_101 ⟨rfl, rfl⟩
    · exact absurd rfl b2
