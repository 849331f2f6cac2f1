/-! REFERENCE: entries -/
theorem dc_M_noEntry_0 : decode mb_M_noEntry 0 = .ok (.aload_n 0, 1) := by decide +kernel
theorem dc_M_noEntry_1 : decode mb_M_noEntry 1 = .ok (.iload_n 1, 1) := by decide +kernel
theorem dc_M_noEntry_2 : decode mb_M_noEntry 2 = .ok (.ifCond .lt 22, 3) := by decide +kernel
theorem dc_M_noEntry_5 : decode mb_M_noEntry 5 = .ok (.iload_n 1, 1) := by decide +kernel
theorem dc_M_noEntry_6 : decode mb_M_noEntry 6 = .ok (.iconst 3, 1) := by decide +kernel
theorem dc_M_noEntry_7 : decode mb_M_noEntry 7 = .ok (.if_icmp .gt 17, 3) := by decide +kernel
theorem dc_M_noEntry_10 : decode mb_M_noEntry 10 = .ok (.iload_n 2, 1) := by decide +kernel
theorem dc_M_noEntry_11 : decode mb_M_noEntry 11 = .ok (.ifCond .lt 13, 3) := by decide +kernel
theorem dc_M_noEntry_14 : decode mb_M_noEntry 14 = .ok (.iload_n 2, 1) := by decide +kernel
theorem dc_M_noEntry_15 : decode mb_M_noEntry 15 = .ok (.aload_n 0, 1) := by decide +kernel
theorem dc_M_noEntry_16 : decode mb_M_noEntry 16 = .ok (.getfield 17, 3) := by decide +kernel
theorem dc_M_noEntry_19 : decode mb_M_noEntry 19 = .ok (.iload_n 1, 1) := by decide +kernel
theorem dc_M_noEntry_20 : decode mb_M_noEntry 20 = .ok (.iaload, 1) := by decide +kernel
theorem dc_M_noEntry_21 : decode mb_M_noEntry 21 = .ok (.if_icmp .lt 7, 3) := by decide +kernel
theorem dc_M_noEntry_24 : decode mb_M_noEntry 24 = .ok (.iconst 1, 1) := by decide +kernel
theorem dc_M_noEntry_25 : decode mb_M_noEntry 25 = .ok (.goto 4, 3) := by decide +kernel
theorem dc_M_noEntry_28 : decode mb_M_noEntry 28 = .ok (.iconst 0, 1) := by decide +kernel
theorem dc_M_noEntry_29 : decode mb_M_noEntry 29 = .ok (.putfield 29, 3) := by decide +kernel
theorem dc_M_noEntry_32 : decode mb_M_noEntry 32 = .ok (.aload_n 0, 1) := by decide +kernel
theorem dc_M_noEntry_33 : decode mb_M_noEntry 33 = .ok (.getfield 29, 3) := by decide +kernel
theorem dc_M_noEntry_36 : decode mb_M_noEntry 36 = .ok (.ifCond .le 7, 3) := by decide +kernel
theorem dc_M_noEntry_39 : decode mb_M_noEntry 39 = .ok (.iconst 1, 1) := by decide +kernel
theorem dc_M_noEntry_40 : decode mb_M_noEntry 40 = .ok (.goto 4, 3) := by decide +kernel
theorem dc_M_noEntry_43 : decode mb_M_noEntry 43 = .ok (.iconst 0, 1) := by decide +kernel
theorem dc_M_noEntry_44 : decode mb_M_noEntry 44 = .ok (.ireturn, 1) := by decide +kernel
theorem dc_M_key_0 : decode mb_M_key 0 = .ok (.aload_n 0, 1) := by decide +kernel
theorem dc_M_key_1 : decode mb_M_key 1 = .ok (.iload_n 1, 1) := by decide +kernel
theorem dc_M_key_2 : decode mb_M_key 2 = .ok (.iload_n 2, 1) := by decide +kernel
theorem dc_M_key_3 : decode mb_M_key 3 = .ok (.invokevirtual 66, 3) := by decide +kernel
theorem dc_M_key_6 : decode mb_M_key 6 = .ok (.ifCond .eq 7, 3) := by decide +kernel
theorem dc_M_key_9 : decode mb_M_key 9 = .ok (.lconst 0, 1) := by decide +kernel
theorem dc_M_key_10 : decode mb_M_key 10 = .ok (.goto 15, 3) := by decide +kernel
theorem dc_M_key_13 : decode mb_M_key 13 = .ok (.aload_n 0, 1) := by decide +kernel
theorem dc_M_key_14 : decode mb_M_key 14 = .ok (.getfield 7, 3) := by decide +kernel
theorem dc_M_key_17 : decode mb_M_key 17 = .ok (.sipush 1024, 3) := by decide +kernel
theorem dc_M_key_20 : decode mb_M_key 20 = .ok (.iload_n 1, 1) := by decide +kernel
theorem dc_M_key_21 : decode mb_M_key 21 = .ok (.imul, 1) := by decide +kernel
theorem dc_M_key_22 : decode mb_M_key 22 = .ok (.iload_n 2, 1) := by decide +kernel
theorem dc_M_key_23 : decode mb_M_key 23 = .ok (.iadd, 1) := by decide +kernel
theorem dc_M_key_24 : decode mb_M_key 24 = .ok (.laload, 1) := by decide +kernel
theorem dc_M_key_25 : decode mb_M_key 25 = .ok (.lreturn, 1) := by decide +kernel
theorem dc_M_tag_0 : decode mb_M_tag 0 = .ok (.aload_n 0, 1) := by decide +kernel
theorem dc_M_tag_1 : decode mb_M_tag 1 = .ok (.iload_n 1, 1) := by decide +kernel
theorem dc_M_tag_2 : decode mb_M_tag 2 = .ok (.iload_n 2, 1) := by decide +kernel
theorem dc_M_tag_3 : decode mb_M_tag 3 = .ok (.invokevirtual 66, 3) := by decide +kernel
theorem dc_M_tag_6 : decode mb_M_tag 6 = .ok (.ifCond .eq 7, 3) := by decide +kernel
theorem dc_M_tag_9 : decode mb_M_tag 9 = .ok (.iconst 0, 1) := by decide +kernel
theorem dc_M_tag_10 : decode mb_M_tag 10 = .ok (.goto 15, 3) := by decide +kernel
theorem dc_M_tag_13 : decode mb_M_tag 13 = .ok (.aload_n 0, 1) := by decide +kernel
theorem dc_M_tag_14 : decode mb_M_tag 14 = .ok (.getfield 13, 3) := by decide +kernel
theorem dc_M_tag_17 : decode mb_M_tag 17 = .ok (.sipush 1024, 3) := by decide +kernel
theorem dc_M_tag_20 : decode mb_M_tag 20 = .ok (.iload_n 1, 1) := by decide +kernel
theorem dc_M_tag_21 : decode mb_M_tag 21 = .ok (.imul, 1) := by decide +kernel
theorem dc_M_tag_22 : decode mb_M_tag 22 = .ok (.iload_n 2, 1) := by decide +kernel
theorem dc_M_tag_23 : decode mb_M_tag 23 = .ok (.iadd, 1) := by decide +kernel
theorem dc_M_tag_24 : decode mb_M_tag 24 = .ok (.iaload, 1) := by decide +kernel
theorem dc_M_tag_25 : decode mb_M_tag 25 = .ok (.ireturn, 1) := by decide +kernel
theorem dc_M_ranked_0 : decode mb_M_ranked 0 = .ok (.aload_n 0, 1) := by decide +kernel
theorem dc_M_ranked_1 : decode mb_M_ranked 1 = .ok (.iload_n 1, 1) := by decide +kernel
theorem dc_M_ranked_2 : decode mb_M_ranked 2 = .ok (.iload_n 3, 1) := by decide +kernel
theorem dc_M_ranked_3 : decode mb_M_ranked 3 = .ok (.invokevirtual 66, 3) := by decide +kernel
theorem dc_M_ranked_6 : decode mb_M_ranked 6 = .ok (.ifCond .ne 11, 3) := by decide +kernel
theorem dc_M_ranked_9 : decode mb_M_ranked 9 = .ok (.aload_n 0, 1) := by decide +kernel
theorem dc_M_ranked_10 : decode mb_M_ranked 10 = .ok (.iload_n 2, 1) := by decide +kernel
theorem dc_M_ranked_11 : decode mb_M_ranked 11 = .ok (.invokevirtual 81, 3) := by decide +kernel
theorem dc_M_ranked_14 : decode mb_M_ranked 14 = .ok (.ifCond .eq 5, 3) := by decide +kernel
theorem dc_M_ranked_17 : decode mb_M_ranked 17 = .ok (.iconst 0, 1) := by decide +kernel
theorem dc_M_ranked_18 : decode mb_M_ranked 18 = .ok (.ireturn, 1) := by decide +kernel
theorem dc_M_ranked_19 : decode mb_M_ranked 19 = .ok (.aload_n 0, 1) := by decide +kernel
theorem dc_M_ranked_20 : decode mb_M_ranked 20 = .ok (.invokevirtual 84, 3) := by decide +kernel
theorem dc_M_ranked_23 : decode mb_M_ranked 23 = .ok (.aload_n 0, 1) := by decide +kernel
theorem dc_M_ranked_24 : decode mb_M_ranked 24 = .ok (.iload_n 1, 1) := by decide +kernel
theorem dc_M_ranked_25 : decode mb_M_ranked 25 = .ok (.iload_n 2, 1) := by decide +kernel
theorem dc_M_ranked_26 : decode mb_M_ranked 26 = .ok (.iconst 1, 1) := by decide +kernel
theorem dc_M_ranked_27 : decode mb_M_ranked 27 = .ok (.invokevirtual 87, 3) := by decide +kernel
theorem dc_M_ranked_30 : decode mb_M_ranked 30 = .ok (.aload_n 0, 1) := by decide +kernel
theorem dc_M_ranked_31 : decode mb_M_ranked 31 = .ok (.getfield 23, 3) := by decide +kernel
theorem dc_M_ranked_34 : decode mb_M_ranked 34 = .ok (.iload_n 3, 1) := by decide +kernel
theorem dc_M_ranked_35 : decode mb_M_ranked 35 = .ok (.iaload, 1) := by decide +kernel
theorem dc_M_ranked_36 : decode mb_M_ranked 36 = .ok (.ireturn, 1) := by decide +kernel
theorem dc_M_cut_0 : decode mb_M_cut 0 = .ok (.aload_n 0, 1) := by decide +kernel
theorem dc_M_cut_1 : decode mb_M_cut 1 = .ok (.iload_n 1, 1) := by decide +kernel
theorem dc_M_cut_2 : decode mb_M_cut 2 = .ok (.invokevirtual 56, 3) := by decide +kernel
theorem dc_M_cut_5 : decode mb_M_cut 5 = .ok (.ifCond .eq 4, 3) := by decide +kernel
theorem dc_M_cut_8 : decode mb_M_cut 8 = .ok (.return_, 1) := by decide +kernel
theorem dc_M_cut_9 : decode mb_M_cut 9 = .ok (.aload_n 0, 1) := by decide +kernel
theorem dc_M_cut_10 : decode mb_M_cut 10 = .ok (.iload_n 2, 1) := by decide +kernel
theorem dc_M_cut_11 : decode mb_M_cut 11 = .ok (.ifCond .lt 13, 3) := by decide +kernel
theorem dc_M_cut_14 : decode mb_M_cut 14 = .ok (.iload_n 2, 1) := by decide +kernel
theorem dc_M_cut_15 : decode mb_M_cut 15 = .ok (.aload_n 0, 1) := by decide +kernel
theorem dc_M_cut_16 : decode mb_M_cut 16 = .ok (.getfield 17, 3) := by decide +kernel
theorem dc_M_cut_19 : decode mb_M_cut 19 = .ok (.iload_n 1, 1) := by decide +kernel
theorem dc_M_cut_20 : decode mb_M_cut 20 = .ok (.iaload, 1) := by decide +kernel
theorem dc_M_cut_21 : decode mb_M_cut 21 = .ok (.if_icmp .le 7, 3) := by decide +kernel
theorem dc_M_cut_24 : decode mb_M_cut 24 = .ok (.iconst 2, 1) := by decide +kernel
theorem dc_M_cut_25 : decode mb_M_cut 25 = .ok (.goto 4, 3) := by decide +kernel
theorem dc_M_cut_28 : decode mb_M_cut 28 = .ok (.iconst 0, 1) := by decide +kernel
theorem dc_M_cut_29 : decode mb_M_cut 29 = .ok (.putfield 29, 3) := by decide +kernel
theorem dc_M_cut_32 : decode mb_M_cut 32 = .ok (.aload_n 0, 1) := by decide +kernel
theorem dc_M_cut_33 : decode mb_M_cut 33 = .ok (.getfield 29, 3) := by decide +kernel
theorem dc_M_cut_36 : decode mb_M_cut 36 = .ok (.ifCond .ne 10, 3) := by decide +kernel
theorem dc_M_cut_39 : decode mb_M_cut 39 = .ok (.aload_n 0, 1) := by decide +kernel
theorem dc_M_cut_40 : decode mb_M_cut 40 = .ok (.getfield 17, 3) := by decide +kernel
theorem dc_M_cut_43 : decode mb_M_cut 43 = .ok (.iload_n 1, 1) := by decide +kernel
theorem dc_M_cut_44 : decode mb_M_cut 44 = .ok (.iload_n 2, 1) := by decide +kernel
theorem dc_M_cut_45 : decode mb_M_cut 45 = .ok (.iastore, 1) := by decide +kernel
theorem dc_M_cut_46 : decode mb_M_cut 46 = .ok (.return_, 1) := by decide +kernel
set_option maxHeartbeats 4000000 in
set_option maxRecDepth 100000 in
theorem ct_M_noEntry (l : Launch) (g : YG) (S : YS) (k n : Nat) (hk : k < 4) (hn : n ≤ 1024) (hc : gI S 27 k = nI n) (i : Nat) (hi : i < n) : yC l mn_M_noEntry mb_M_noEntry 3 (some .boolean) 0 g [.ref (g.ad (24)), .int (nI (k)), .int (nI (i))] S (fun v S' => v = some (.int 0) ∧ S' = yx S 0) := by
  refine yC_of (by decide) (Nat.le_of_ble_eq_true rfl) ?_
  intro o hl hg hB0 hE
  subst hl
  subst hg
  have hB : yB o mb_M_noEntry "OrderBenchModel" := hB0
  have hm := hE.1
  show yW o (S) 0 [(0, .ref (o.G.ad (24))), (1, .int (nI (k))), (2, .int (nI (i)))] []
  refine y_aload_n (pc' := 1) hB dc_M_noEntry_0 rfl rfl 0 rfl ?_
  refine y_iload_n (pc' := 2) hB dc_M_noEntry_1 rfl rfl 1 rfl ?_
  refine n_if_lt (pc' := 5) (tg := 24) hB dc_M_noEntry_2 rfl rfl (by omega) ?_
  refine y_iload_n (pc' := 6) hB dc_M_noEntry_5 rfl rfl 1 rfl ?_
  refine y_iconst (v := nI 3) (pc' := 7) hB dc_M_noEntry_6 rfl rfl ?_
  refine n_icmp_gt (pc' := 10) (tg := 24) hB dc_M_noEntry_7 rfl rfl (by omega) (by omega) (fun b1 => ?_) (fun b1 => ?_)
  · omega
  · refine y_iload_n (pc' := 11) hB dc_M_noEntry_10 rfl rfl 2 rfl ?_
    refine n_if_lt (pc' := 14) (tg := 24) hB dc_M_noEntry_11 rfl rfl (by omega) ?_
    refine y_iload_n (pc' := 15) hB dc_M_noEntry_14 rfl rfl 2 rfl ?_
    refine y_aload_n (pc' := 16) hB dc_M_noEntry_15 rfl rfl 0 rfl ?_
    refine f_M_sizes (pc' := 19) hB dc_M_noEntry_16 rfl q_642 ?_
    refine y_iload_n (pc' := 20) hB dc_M_noEntry_19 rfl rfl 1 rfl ?_
    refine y_iald (c := 27) (n := 4) (j := k) (pc' := 21) hB dc_M_noEntry_20 rfl (by decide) rfl (by omega) (by decide) ?_
    refine y_topi (y := nI (n)) (hc) ?_
    refine n_icmp_lt (pc' := 24) (tg := 28) hB dc_M_noEntry_21 rfl rfl (by omega) (by omega) (fun b3 => ?_) (fun b3 => ?_)
    · refine y_iconst (v := nI 0) (pc' := 29) hB dc_M_noEntry_28 rfl rfl ?_
      refine p_M_code (pc' := 32) hB dc_M_noEntry_29 rfl q_639 ?_
      show yW o (yx S 0) 32 [(0, .ref (o.G.ad (24))), (1, .int (nI (k))), (2, .int (nI (i)))] []
      refine y_aload_n (pc' := 33) hB dc_M_noEntry_32 rfl rfl 0 rfl ?_
      refine f_M_code (pc' := 36) hB dc_M_noEntry_33 rfl q_639 ?_
      refine y_topi (y := nI (0)) (yx_c S 0) ?_
      refine n_if_le (pc' := 39) (tg := 43) hB dc_M_noEntry_36 rfl rfl (by omega) (fun b4 => ?_) (fun b4 => ?_)
      · refine y_iconst (v := nI 0) (pc' := 44) hB dc_M_noEntry_43 rfl rfl ?_
        exact y_zret hB hE dc_M_noEntry_44 (Or.inl rfl) ⟨rfl, rfl⟩
      · omega
    · omega
set_option maxHeartbeats 4000000 in
set_option maxRecDepth 100000 in
theorem ct_M_key (l : Launch) (g : YG) (S : YS) (k n : Nat) (hk : k < 4) (hn : n ≤ 1024) (hc : gI S 27 k = nI n) (i : Nat) (hi : i < n) : yC l mn_M_key mb_M_key 3 (some .long) 1 g [.ref (g.ad (24)), .int (nI (k)), .int (nI (i))] S (fun v S' => v = some (.long ((ze4 S k) i).1) ∧ S' = yx S 0) := by
  refine yC_of (by decide) (Nat.le_of_ble_eq_true rfl) ?_
  intro o hl hg hB0 hE
  subst hl
  subst hg
  have hB : yB o mb_M_key "OrderBenchModel" := hB0
  have hm := hE.1
  show yW o (S) 0 [(0, .ref (o.G.ad (24))), (1, .int (nI (k))), (2, .int (nI (i)))] []
  refine y_aload_n (pc' := 1) hB dc_M_key_0 rfl rfl 0 rfl ?_
  refine y_iload_n (pc' := 2) hB dc_M_key_1 rfl rfl 1 rfl ?_
  refine y_iload_n (pc' := 3) hB dc_M_key_2 rfl rfl 2 rfl ?_
  refine y_callV (c := 24) (ci := 4) (As := [.int (nI (k)), .int (nI (i))]) (rest := []) (pc' := 6) hB hE (ct_M_noEntry o.l o.G S k n hk hn hc i hi) mm_M_noEntry q_692 q_694 qs_13 (by decide) rfl rfl dc_M_key_3 rfl (by decide) rfl rfl (Nat.le_of_ble_eq_true rfl) (fun v S' hpost => ?_)
  obtain ⟨rfl, hSS⟩ := hpost
  rw [hSS]
  clear hSS S'
  show yW o (yx S 0) 6 [(0, .ref (o.G.ad (24))), (1, .int (nI (k))), (2, .int (nI (i)))] [.int (0)]
  refine y_if_eq (x := 0) (pc' := 9) (tg := 13) hB dc_M_key_6 rfl rfl (fun b1 => ?_) (fun b1 => ?_)
  · refine y_aload_n (pc' := 14) hB dc_M_key_13 rfl rfl 0 rfl ?_
    refine f_M_keys (pc' := 17) hB dc_M_key_14 rfl q_640 ?_
    refine y_sipush (v := nI 1024) (pc' := 20) hB dc_M_key_17 rfl (by decide) ?_
    refine y_iload_n (pc' := 21) hB dc_M_key_20 rfl rfl 1 rfl ?_
    refine n_imul (x := 1024) (y := k) (pc' := 22) hB dc_M_key_21 rfl ?_
    refine y_iload_n (pc' := 23) hB dc_M_key_22 rfl rfl 2 rfl ?_
    refine n_iadd (x := 1024 * k) (y := i) (pc' := 24) hB dc_M_key_23 rfl ?_
    refine y_lald (c := 25) (n := 4096) (j := (1024 * k) + i) (pc' := 25) hB dc_M_key_24 rfl (by decide) rfl (by omega) (by decide) ?_
    exact y_lret hB hE dc_M_key_25 ⟨rfl, rfl⟩
  · exact absurd rfl b1
set_option maxHeartbeats 4000000 in
set_option maxRecDepth 100000 in
theorem ct_M_tag (l : Launch) (g : YG) (S : YS) (k n : Nat) (hk : k < 4) (hn : n ≤ 1024) (hc : gI S 27 k = nI n) (i : Nat) (hi : i < n) : yC l mn_M_tag mb_M_tag 3 (some .int) 1 g [.ref (g.ad (24)), .int (nI (k)), .int (nI (i))] S (fun v S' => v = some (.int ((ze4 S k) i).2) ∧ S' = yx S 0) := by
  refine yC_of (by decide) (Nat.le_of_ble_eq_true rfl) ?_
  intro o hl hg hB0 hE
  subst hl
  subst hg
  have hB : yB o mb_M_tag "OrderBenchModel" := hB0
  have hm := hE.1
  show yW o (S) 0 [(0, .ref (o.G.ad (24))), (1, .int (nI (k))), (2, .int (nI (i)))] []
  refine y_aload_n (pc' := 1) hB dc_M_tag_0 rfl rfl 0 rfl ?_
  refine y_iload_n (pc' := 2) hB dc_M_tag_1 rfl rfl 1 rfl ?_
  refine y_iload_n (pc' := 3) hB dc_M_tag_2 rfl rfl 2 rfl ?_
  refine y_callV (c := 24) (ci := 4) (As := [.int (nI (k)), .int (nI (i))]) (rest := []) (pc' := 6) hB hE (ct_M_noEntry o.l o.G S k n hk hn hc i hi) mm_M_noEntry q_692 q_694 qs_13 (by decide) rfl rfl dc_M_tag_3 rfl (by decide) rfl rfl (Nat.le_of_ble_eq_true rfl) (fun v S' hpost => ?_)
  obtain ⟨rfl, hSS⟩ := hpost
  rw [hSS]
  clear hSS S'
  show yW o (yx S 0) 6 [(0, .ref (o.G.ad (24))), (1, .int (nI (k))), (2, .int (nI (i)))] [.int (0)]
  refine y_if_eq (x := 0) (pc' := 9) (tg := 13) hB dc_M_tag_6 rfl rfl (fun b1 => ?_) (fun b1 => ?_)
  · refine y_aload_n (pc' := 14) hB dc_M_tag_13 rfl rfl 0 rfl ?_
    refine f_M_tags (pc' := 17) hB dc_M_tag_14 rfl q_641 ?_
    refine y_sipush (v := nI 1024) (pc' := 20) hB dc_M_tag_17 rfl (by decide) ?_
    refine y_iload_n (pc' := 21) hB dc_M_tag_20 rfl rfl 1 rfl ?_
    refine n_imul (x := 1024) (y := k) (pc' := 22) hB dc_M_tag_21 rfl ?_
    refine y_iload_n (pc' := 23) hB dc_M_tag_22 rfl rfl 2 rfl ?_
    refine n_iadd (x := 1024 * k) (y := i) (pc' := 24) hB dc_M_tag_23 rfl ?_
    refine y_iald (c := 26) (n := 4096) (j := (1024 * k) + i) (pc' := 25) hB dc_M_tag_24 rfl (by decide) rfl (by omega) (by decide) ?_
    exact y_iret hB hE dc_M_tag_25 ⟨rfl, rfl⟩
  · exact absurd rfl b1
set_option maxHeartbeats 4000000 in
set_option maxRecDepth 100000 in
theorem ct_M_ranked (l : Launch) (g : YG) (S : YS) (k n : Nat) (hk : k < 4) (hn : n ≤ 1024) (hc : gI S 27 k = nI n) (od i : Nat) (ho : od < 8) (hi : i < n) : yC l mn_M_ranked mb_M_ranked 4 (some .int) 6 g [.ref (g.ad (24)), .int (nI (k)), .int (nI (od)), .int (nI (i))] S (fun v S' => ∃ f : Nat → Int64 × Int32, v = some (.int (f i).2) ∧ S' = mW (yx S 0) f n ∧ zs f 0 n = zt (zq od false) (zs (ze4 S k) 0 n)) := by
  refine yC_of (by decide) (Nat.le_of_ble_eq_true rfl) ?_
  intro o hl hg hB0 hE
  subst hl
  subst hg
  have hB : yB o mb_M_ranked "OrderBenchModel" := hB0
  have hm := hE.1
  show yW o (S) 0 [(0, .ref (o.G.ad (24))), (1, .int (nI (k))), (2, .int (nI (od))), (3, .int (nI (i)))] []
  refine y_aload_n (pc' := 1) hB dc_M_ranked_0 rfl rfl 0 rfl ?_
  refine y_iload_n (pc' := 2) hB dc_M_ranked_1 rfl rfl 1 rfl ?_
  refine y_iload_n (pc' := 3) hB dc_M_ranked_2 rfl rfl 3 rfl ?_
  refine y_callV (c := 24) (ci := 4) (As := [.int (nI (k)), .int (nI (i))]) (rest := []) (pc' := 6) hB hE (ct_M_noEntry o.l o.G S k n hk hn hc i hi) mm_M_noEntry q_692 q_694 qs_13 (by decide) rfl rfl dc_M_ranked_3 rfl (by decide) rfl rfl (Nat.le_of_ble_eq_true rfl) (fun v S' hpost => ?_)
  obtain ⟨rfl, hSS⟩ := hpost
  rw [hSS]
  clear hSS S'
  show yW o (yx S 0) 6 [(0, .ref (o.G.ad (24))), (1, .int (nI (k))), (2, .int (nI (od))), (3, .int (nI (i)))] [.int (0)]
  refine y_if_ne (x := 0) (pc' := 9) (tg := 17) hB dc_M_ranked_6 rfl rfl (fun b1 => ?_) (fun b1 => ?_)
  · exact absurd rfl b1
  · refine y_aload_n (pc' := 10) hB dc_M_ranked_9 rfl rfl 0 rfl ?_
    refine y_iload_n (pc' := 11) hB dc_M_ranked_10 rfl rfl 2 rfl ?_
    refine y_callV (c := 24) (ci := 4) (As := [.int (nI (od))]) (rest := []) (pc' := 14) hB hE (ct_M_noOrder o.l o.G (yx S 0) (nI od) (zgo_of ho)) mm_M_noOrder q_720 q_722 qs_14 (by decide) rfl rfl dc_M_ranked_11 rfl (by decide) rfl rfl (Nat.le_of_ble_eq_true rfl) (fun v S' hpost => ?_)
    obtain ⟨rfl, hSS⟩ := hpost
    rw [hSS]
    clear hSS S'
    show yW o (yx (yx S 0) 0) 14 [(0, .ref (o.G.ad (24))), (1, .int (nI (k))), (2, .int (nI (od))), (3, .int (nI (i)))] [.int (0)]
    rw [yx_yx]
    refine y_if_eq (x := 0) (pc' := 17) (tg := 19) hB dc_M_ranked_14 rfl rfl (fun b2 => ?_) (fun b2 => ?_)
    · refine y_aload_n (pc' := 20) hB dc_M_ranked_19 rfl rfl 0 rfl ?_
      refine y_callV (c := 24) (ci := 4) (As := []) (rest := []) (pc' := 23) hB hE (ct_M_begin o.l o.G (yx S 0)) mm_M_begin q_724 q_726 qs_15 (by decide) rfl rfl dc_M_ranked_20 rfl (by decide) rfl rfl (Nat.le_of_ble_eq_true rfl) (fun v S' hpost => ?_)
      obtain ⟨rfl, hSS⟩ := hpost
      rw [hSS]
      clear hSS S'
      show yW o (mW (yx S 0) (fun j => (gL (yx S 0) 28 j, gI (yx S 0) 29 j)) 0) 23 [(0, .ref (o.G.ad (24))), (1, .int (nI (k))), (2, .int (nI (od))), (3, .int (nI (i)))] []
      obtain ⟨f0, hf0⟩ : ∃ z, z = (fun j => (gL (yx S 0) 28 j, gI (yx S 0) 29 j)) := ⟨_, rfl⟩
      rw [← hf0]
      refine y_aload_n (pc' := 24) hB dc_M_ranked_23 rfl rfl 0 rfl ?_
      refine y_iload_n (pc' := 25) hB dc_M_ranked_24 rfl rfl 1 rfl ?_
      refine y_iload_n (pc' := 26) hB dc_M_ranked_25 rfl rfl 2 rfl ?_
      refine y_iconst (v := nI 1) (pc' := 27) hB dc_M_ranked_26 rfl rfl ?_
      refine y_callV (c := 24) (ci := 4) (As := [.int (nI (k)), .int (nI (od)), .int (yb (!false))]) (rest := []) (pc' := 30) hB hE (ct_M_placeAll o.l o.G (yx S 0) k n hk hn hc f0 0 (by omega) od ho false (by rw [zs_zero]; exact List.Pairwise.nil)) mm_M_placeAll q_728 q_730 qs_16 (by decide) rfl rfl dc_M_ranked_27 rfl (by decide) rfl rfl (Nat.le_of_ble_eq_true rfl) (fun v S' hpost => ?_)
      obtain ⟨f1, rfl, rfl, m3⟩ := hpost
      rw [Nat.zero_add, zs_zero, zpl_nil] at m3
      rw [Nat.zero_add]
      show yW o (mW (yx S 0) f1 n) 30 [(0, .ref (o.G.ad (24))), (1, .int (nI (k))), (2, .int (nI (od))), (3, .int (nI (i)))] []
      refine y_aload_n (pc' := 31) hB dc_M_ranked_30 rfl rfl 0 rfl ?_
      refine f_M_workTags (pc' := 34) hB dc_M_ranked_31 rfl q_644 ?_
      refine y_iload_n (pc' := 35) hB dc_M_ranked_34 rfl rfl 3 rfl ?_
      refine y_iald (c := 29) (n := 2048) (j := i) (pc' := 36) hB dc_M_ranked_35 rfl (by decide) rfl (by omega) (by decide) ?_
      refine y_topi (y := (f1 i).2) (by rw [mW_I]) ?_
      exact y_iret hB hE dc_M_ranked_36 ⟨f1, rfl, rfl, m3⟩
    · exact absurd rfl b2
set_option maxHeartbeats 4000000 in
set_option maxRecDepth 100000 in
theorem ct_M_cut (l : Launch) (g : YG) (S : YS) (k n : Nat) (hk : k < 4) (hn : n ≤ 1024) (hc : gI S 27 k = nI n) (m : Nat) (hm2 : m ≤ n) : yC l mn_M_cut mb_M_cut 3 none 1 g [.ref (g.ad (24)), .int (nI (k)), .int (nI (m))] S (fun v S' => v = none ∧ S' = sI (yx S 0) 27 (upd (gI S 27) k (nI m))) := by
  refine yC_of (by decide) (Nat.le_of_ble_eq_true rfl) ?_
  intro o hl hg hB0 hE
  subst hl
  subst hg
  have hB : yB o mb_M_cut "OrderBenchModel" := hB0
  have hm := hE.1
  show yW o (S) 0 [(0, .ref (o.G.ad (24))), (1, .int (nI (k))), (2, .int (nI (m)))] []
  refine y_aload_n (pc' := 1) hB dc_M_cut_0 rfl rfl 0 rfl ?_
  refine y_iload_n (pc' := 2) hB dc_M_cut_1 rfl rfl 1 rfl ?_
  refine y_callV (c := 24) (ci := 4) (As := [.int (nI (k))]) (rest := []) (pc' := 5) hB hE (ct_M_noRow o.l o.G S (nI k) (zgr_of hk)) mm_M_noRow q_672 q_674 qs_12 (by decide) rfl rfl dc_M_cut_2 rfl (by decide) rfl rfl (Nat.le_of_ble_eq_true rfl) (fun v S' hpost => ?_)
  obtain ⟨rfl, hSS⟩ := hpost
  rw [hSS]
  clear hSS S'
  show yW o (yx S 0) 5 [(0, .ref (o.G.ad (24))), (1, .int (nI (k))), (2, .int (nI (m)))] [.int (0)]
  refine y_if_eq (x := 0) (pc' := 8) (tg := 9) hB dc_M_cut_5 rfl rfl (fun b1 => ?_) (fun b1 => ?_)
  · refine y_aload_n (pc' := 10) hB dc_M_cut_9 rfl rfl 0 rfl ?_
    refine y_iload_n (pc' := 11) hB dc_M_cut_10 rfl rfl 2 rfl ?_
    refine n_if_lt (pc' := 14) (tg := 24) hB dc_M_cut_11 rfl rfl (by omega) ?_
    refine y_iload_n (pc' := 15) hB dc_M_cut_14 rfl rfl 2 rfl ?_
    refine y_aload_n (pc' := 16) hB dc_M_cut_15 rfl rfl 0 rfl ?_
    refine f_M_sizes (pc' := 19) hB dc_M_cut_16 rfl q_642 ?_
    refine y_iload_n (pc' := 20) hB dc_M_cut_19 rfl rfl 1 rfl ?_
    refine y_iald (c := 27) (n := 4) (j := k) (pc' := 21) hB dc_M_cut_20 rfl (by decide) rfl (by omega) (by decide) ?_
    refine y_topi (y := nI (n)) (hc) ?_
    refine n_icmp_le (pc' := 24) (tg := 28) hB dc_M_cut_21 rfl rfl (by omega) (by omega) (fun b3 => ?_) (fun b3 => ?_)
    · refine y_iconst (v := nI 0) (pc' := 29) hB dc_M_cut_28 rfl rfl ?_
      refine p_M_code (pc' := 32) hB dc_M_cut_29 rfl q_639 ?_
      show yW o (yx (yx S 0) 0) 32 [(0, .ref (o.G.ad (24))), (1, .int (nI (k))), (2, .int (nI (m)))] []
      rw [yx_yx]
      refine y_aload_n (pc' := 33) hB dc_M_cut_32 rfl rfl 0 rfl ?_
      refine f_M_code (pc' := 36) hB dc_M_cut_33 rfl q_639 ?_
      refine y_topi (y := nI (0)) (yx_c S 0) ?_
      refine n_if_ne (pc' := 39) (tg := 46) hB dc_M_cut_36 rfl rfl (by omega) (fun b4 => ?_) (fun b4 => ?_)
      · omega
      · refine y_aload_n (pc' := 40) hB dc_M_cut_39 rfl rfl 0 rfl ?_
        refine f_M_sizes (pc' := 43) hB dc_M_cut_40 rfl q_642 ?_
        refine y_iload_n (pc' := 44) hB dc_M_cut_43 rfl rfl 1 rfl ?_
        refine y_iload_n (pc' := 45) hB dc_M_cut_44 rfl rfl 2 rfl ?_
        refine y_iast (c := 27) (n := 4) (j := k) (pc' := 46) hB dc_M_cut_45 rfl (by decide) rfl (by omega) (by decide) ?_
        exact y_vret hB hE dc_M_cut_46 ⟨rfl, rfl⟩
    · omega
  · exact absurd rfl b1
