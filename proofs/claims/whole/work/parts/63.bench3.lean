/-! BENCH: plain calls -/
theorem dc_B_add_0 : decode mb_B_add 0 = .ok (.aload_n 0, 1) := by decide +kernel
theorem dc_B_add_1 : decode mb_B_add 1 = .ok (.iload_n 1, 1) := by decide +kernel
theorem dc_B_add_2 : decode mb_B_add 2 = .ok (.invokevirtual 49, 3) := by decide +kernel
theorem dc_B_add_5 : decode mb_B_add 5 = .ok (.astore 5, 2) := by decide +kernel
theorem dc_B_add_7 : decode mb_B_add 7 = .ok (.aload 5, 2) := by decide +kernel
theorem dc_B_add_9 : decode mb_B_add 9 = .ok (.getfield 53, 3) := by decide +kernel
theorem dc_B_add_12 : decode mb_B_add 12 = .ok (.sipush 1024, 3) := by decide +kernel
theorem dc_B_add_15 : decode mb_B_add 15 = .ok (.if_icmp .lt 13, 3) := by decide +kernel
theorem dc_B_add_18 : decode mb_B_add 18 = .ok (.new 57, 3) := by decide +kernel
theorem dc_B_add_21 : decode mb_B_add 21 = .ok (.dup, 1) := by decide +kernel
theorem dc_B_add_22 : decode mb_B_add 22 = .ok (.ldc 59, 2) := by decide +kernel
theorem dc_B_add_24 : decode mb_B_add 24 = .ok (.invokespecial 61, 3) := by decide +kernel
theorem dc_B_add_27 : decode mb_B_add 27 = .ok (.athrow, 1) := by decide +kernel
theorem dc_B_add_28 : decode mb_B_add 28 = .ok (.aload 5, 2) := by decide +kernel
theorem dc_B_add_30 : decode mb_B_add 30 = .ok (.aload 5, 2) := by decide +kernel
theorem dc_B_add_32 : decode mb_B_add 32 = .ok (.getfield 53, 3) := by decide +kernel
theorem dc_B_add_35 : decode mb_B_add 35 = .ok (.lload_n 2, 1) := by decide +kernel
theorem dc_B_add_36 : decode mb_B_add 36 = .ok (.iload 4, 2) := by decide +kernel
theorem dc_B_add_38 : decode mb_B_add 38 = .ok (.invokevirtual 64, 3) := by decide +kernel
theorem dc_B_add_41 : decode mb_B_add 41 = .ok (.aload 5, 2) := by decide +kernel
theorem dc_B_add_43 : decode mb_B_add 43 = .ok (.dup, 1) := by decide +kernel
theorem dc_B_add_44 : decode mb_B_add 44 = .ok (.getfield 53, 3) := by decide +kernel
theorem dc_B_add_47 : decode mb_B_add 47 = .ok (.iconst 1, 1) := by decide +kernel
theorem dc_B_add_48 : decode mb_B_add 48 = .ok (.iadd, 1) := by decide +kernel
theorem dc_B_add_49 : decode mb_B_add 49 = .ok (.putfield 53, 3) := by decide +kernel
theorem dc_B_add_52 : decode mb_B_add 52 = .ok (.aload 5, 2) := by decide +kernel
theorem dc_B_add_54 : decode mb_B_add 54 = .ok (.getfield 53, 3) := by decide +kernel
theorem dc_B_add_57 : decode mb_B_add 57 = .ok (.ireturn, 1) := by decide +kernel
theorem dc_B_cut_0 : decode mb_B_cut 0 = .ok (.aload_n 0, 1) := by decide +kernel
theorem dc_B_cut_1 : decode mb_B_cut 1 = .ok (.iload_n 1, 1) := by decide +kernel
theorem dc_B_cut_2 : decode mb_B_cut 2 = .ok (.invokevirtual 49, 3) := by decide +kernel
theorem dc_B_cut_5 : decode mb_B_cut 5 = .ok (.astore_n 3, 1) := by decide +kernel
theorem dc_B_cut_6 : decode mb_B_cut 6 = .ok (.iload_n 2, 1) := by decide +kernel
theorem dc_B_cut_7 : decode mb_B_cut 7 = .ok (.ifCond .lt 11, 3) := by decide +kernel
theorem dc_B_cut_10 : decode mb_B_cut 10 = .ok (.iload_n 2, 1) := by decide +kernel
theorem dc_B_cut_11 : decode mb_B_cut 11 = .ok (.aload_n 3, 1) := by decide +kernel
theorem dc_B_cut_12 : decode mb_B_cut 12 = .ok (.getfield 53, 3) := by decide +kernel
theorem dc_B_cut_15 : decode mb_B_cut 15 = .ok (.if_icmp .le 13, 3) := by decide +kernel
theorem dc_B_cut_18 : decode mb_B_cut 18 = .ok (.new 68, 3) := by decide +kernel
theorem dc_B_cut_21 : decode mb_B_cut 21 = .ok (.dup, 1) := by decide +kernel
theorem dc_B_cut_22 : decode mb_B_cut 22 = .ok (.ldc 90, 2) := by decide +kernel
theorem dc_B_cut_24 : decode mb_B_cut 24 = .ok (.invokespecial 72, 3) := by decide +kernel
theorem dc_B_cut_27 : decode mb_B_cut 27 = .ok (.athrow, 1) := by decide +kernel
theorem dc_B_cut_28 : decode mb_B_cut 28 = .ok (.aload_n 3, 1) := by decide +kernel
theorem dc_B_cut_29 : decode mb_B_cut 29 = .ok (.iload_n 2, 1) := by decide +kernel
theorem dc_B_cut_30 : decode mb_B_cut 30 = .ok (.putfield 53, 3) := by decide +kernel
theorem dc_B_cut_33 : decode mb_B_cut 33 = .ok (.return_, 1) := by decide +kernel
theorem dc_B_swap_0 : decode mb_B_swap 0 = .ok (.aload_n 0, 1) := by decide +kernel
theorem dc_B_swap_1 : decode mb_B_swap 1 = .ok (.iload_n 1, 1) := by decide +kernel
theorem dc_B_swap_2 : decode mb_B_swap 2 = .ok (.invokevirtual 49, 3) := by decide +kernel
theorem dc_B_swap_5 : decode mb_B_swap 5 = .ok (.astore 4, 2) := by decide +kernel
theorem dc_B_swap_7 : decode mb_B_swap 7 = .ok (.aload 4, 2) := by decide +kernel
theorem dc_B_swap_9 : decode mb_B_swap 9 = .ok (.iload_n 2, 1) := by decide +kernel
theorem dc_B_swap_10 : decode mb_B_swap 10 = .ok (.invokestatic 92, 3) := by decide +kernel
theorem dc_B_swap_13 : decode mb_B_swap 13 = .ok (.aload 4, 2) := by decide +kernel
theorem dc_B_swap_15 : decode mb_B_swap 15 = .ok (.iload_n 3, 1) := by decide +kernel
theorem dc_B_swap_16 : decode mb_B_swap 16 = .ok (.invokestatic 92, 3) := by decide +kernel
theorem dc_B_swap_19 : decode mb_B_swap 19 = .ok (.aload 4, 2) := by decide +kernel
theorem dc_B_swap_21 : decode mb_B_swap 21 = .ok (.iload_n 2, 1) := by decide +kernel
theorem dc_B_swap_22 : decode mb_B_swap 22 = .ok (.iload_n 3, 1) := by decide +kernel
theorem dc_B_swap_23 : decode mb_B_swap 23 = .ok (.invokevirtual 95, 3) := by decide +kernel
theorem dc_B_swap_26 : decode mb_B_swap 26 = .ok (.return_, 1) := by decide +kernel
theorem dc_B_size_0 : decode mb_B_size 0 = .ok (.aload_n 0, 1) := by decide +kernel
theorem dc_B_size_1 : decode mb_B_size 1 = .ok (.iload_n 1, 1) := by decide +kernel
theorem dc_B_size_2 : decode mb_B_size 2 = .ok (.invokevirtual 49, 3) := by decide +kernel
theorem dc_B_size_5 : decode mb_B_size 5 = .ok (.getfield 53, 3) := by decide +kernel
theorem dc_B_size_8 : decode mb_B_size 8 = .ok (.ireturn, 1) := by decide +kernel
theorem dc_B_key_0 : decode mb_B_key 0 = .ok (.aload_n 0, 1) := by decide +kernel
theorem dc_B_key_1 : decode mb_B_key 1 = .ok (.iload_n 1, 1) := by decide +kernel
theorem dc_B_key_2 : decode mb_B_key 2 = .ok (.invokevirtual 49, 3) := by decide +kernel
theorem dc_B_key_5 : decode mb_B_key 5 = .ok (.astore_n 3, 1) := by decide +kernel
theorem dc_B_key_6 : decode mb_B_key 6 = .ok (.aload_n 3, 1) := by decide +kernel
theorem dc_B_key_7 : decode mb_B_key 7 = .ok (.iload_n 2, 1) := by decide +kernel
theorem dc_B_key_8 : decode mb_B_key 8 = .ok (.invokestatic 92, 3) := by decide +kernel
theorem dc_B_key_11 : decode mb_B_key 11 = .ok (.aload_n 3, 1) := by decide +kernel
theorem dc_B_key_12 : decode mb_B_key 12 = .ok (.getfield 78, 3) := by decide +kernel
theorem dc_B_key_15 : decode mb_B_key 15 = .ok (.iload_n 2, 1) := by decide +kernel
theorem dc_B_key_16 : decode mb_B_key 16 = .ok (.laload, 1) := by decide +kernel
theorem dc_B_key_17 : decode mb_B_key 17 = .ok (.lreturn, 1) := by decide +kernel
theorem dc_B_tag_0 : decode mb_B_tag 0 = .ok (.aload_n 0, 1) := by decide +kernel
theorem dc_B_tag_1 : decode mb_B_tag 1 = .ok (.iload_n 1, 1) := by decide +kernel
theorem dc_B_tag_2 : decode mb_B_tag 2 = .ok (.invokevirtual 49, 3) := by decide +kernel
theorem dc_B_tag_5 : decode mb_B_tag 5 = .ok (.astore_n 3, 1) := by decide +kernel
theorem dc_B_tag_6 : decode mb_B_tag 6 = .ok (.aload_n 3, 1) := by decide +kernel
theorem dc_B_tag_7 : decode mb_B_tag 7 = .ok (.iload_n 2, 1) := by decide +kernel
theorem dc_B_tag_8 : decode mb_B_tag 8 = .ok (.invokestatic 92, 3) := by decide +kernel
theorem dc_B_tag_11 : decode mb_B_tag 11 = .ok (.aload_n 3, 1) := by decide +kernel
theorem dc_B_tag_12 : decode mb_B_tag 12 = .ok (.getfield 103, 3) := by decide +kernel
theorem dc_B_tag_15 : decode mb_B_tag 15 = .ok (.iload_n 2, 1) := by decide +kernel
theorem dc_B_tag_16 : decode mb_B_tag 16 = .ok (.iaload, 1) := by decide +kernel
theorem dc_B_tag_17 : decode mb_B_tag 17 = .ok (.ireturn, 1) := by decide +kernel
theorem dc_B_within_0 : decode mb_B_within 0 = .ok (.aload_n 0, 1) := by decide +kernel
theorem dc_B_within_1 : decode mb_B_within 1 = .ok (.getfield 45, 3) := by decide +kernel
theorem dc_B_within_4 : decode mb_B_within 4 = .ok (.ireturn, 1) := by decide +kernel
theorem dc_B_sorted_0 : decode mb_B_sorted 0 = .ok (.aload_n 0, 1) := by decide +kernel
theorem dc_B_sorted_1 : decode mb_B_sorted 1 = .ok (.iload_n 1, 1) := by decide +kernel
theorem dc_B_sorted_2 : decode mb_B_sorted 2 = .ok (.invokevirtual 49, 3) := by decide +kernel
theorem dc_B_sorted_5 : decode mb_B_sorted 5 = .ok (.astore_n 3, 1) := by decide +kernel
theorem dc_B_sorted_6 : decode mb_B_sorted 6 = .ok (.aload_n 0, 1) := by decide +kernel
theorem dc_B_sorted_7 : decode mb_B_sorted 7 = .ok (.iload_n 2, 1) := by decide +kernel
theorem dc_B_sorted_8 : decode mb_B_sorted 8 = .ok (.invokevirtual 159, 3) := by decide +kernel
theorem dc_B_sorted_11 : decode mb_B_sorted 11 = .ok (.aload_n 0, 1) := by decide +kernel
theorem dc_B_sorted_12 : decode mb_B_sorted 12 = .ok (.aload_n 3, 1) := by decide +kernel
theorem dc_B_sorted_13 : decode mb_B_sorted 13 = .ok (.invokevirtual 162, 3) := by decide +kernel
theorem dc_B_sorted_16 : decode mb_B_sorted 16 = .ok (.ireturn, 1) := by decide +kernel
theorem dc_B_mark_0 : decode mb_B_mark 0 = .ok (.aload_n 0, 1) := by decide +kernel
theorem dc_B_mark_1 : decode mb_B_mark 1 = .ok (.iload_n 1, 1) := by decide +kernel
theorem dc_B_mark_2 : decode mb_B_mark 2 = .ok (.invokevirtual 49, 3) := by decide +kernel
theorem dc_B_mark_5 : decode mb_B_mark 5 = .ok (.astore_n 2, 1) := by decide +kernel
theorem dc_B_mark_6 : decode mb_B_mark 6 = .ok (.ldc2_w 207, 3) := by decide +kernel
theorem dc_B_mark_9 : decode mb_B_mark 9 = .ok (.lstore_n 3, 1) := by decide +kernel
theorem dc_B_mark_10 : decode mb_B_mark 10 = .ok (.iconst 0, 1) := by decide +kernel
theorem dc_B_mark_11 : decode mb_B_mark 11 = .ok (.istore 5, 2) := by decide +kernel
theorem dc_B_mark_13 : decode mb_B_mark 13 = .ok (.iload 5, 2) := by decide +kernel
theorem dc_B_mark_15 : decode mb_B_mark 15 = .ok (.aload_n 2, 1) := by decide +kernel
theorem dc_B_mark_16 : decode mb_B_mark 16 = .ok (.getfield 53, 3) := by decide +kernel
theorem dc_B_mark_19 : decode mb_B_mark 19 = .ok (.if_icmp .ge 36, 3) := by decide +kernel
theorem dc_B_mark_22 : decode mb_B_mark 22 = .ok (.ldc2_w 209, 3) := by decide +kernel
theorem dc_B_mark_25 : decode mb_B_mark 25 = .ok (.lload_n 3, 1) := by decide +kernel
theorem dc_B_mark_26 : decode mb_B_mark 26 = .ok (.lmul, 1) := by decide +kernel
theorem dc_B_mark_27 : decode mb_B_mark 27 = .ok (.aload_n 2, 1) := by decide +kernel
theorem dc_B_mark_28 : decode mb_B_mark 28 = .ok (.getfield 78, 3) := by decide +kernel
theorem dc_B_mark_31 : decode mb_B_mark 31 = .ok (.iload 5, 2) := by decide +kernel
theorem dc_B_mark_33 : decode mb_B_mark 33 = .ok (.laload, 1) := by decide +kernel
theorem dc_B_mark_34 : decode mb_B_mark 34 = .ok (.ladd, 1) := by decide +kernel
theorem dc_B_mark_35 : decode mb_B_mark 35 = .ok (.ldc2_w 211, 3) := by decide +kernel
theorem dc_B_mark_38 : decode mb_B_mark 38 = .ok (.aload_n 2, 1) := by decide +kernel
theorem dc_B_mark_39 : decode mb_B_mark 39 = .ok (.getfield 103, 3) := by decide +kernel
theorem dc_B_mark_42 : decode mb_B_mark 42 = .ok (.iload 5, 2) := by decide +kernel
theorem dc_B_mark_44 : decode mb_B_mark 44 = .ok (.iaload, 1) := by decide +kernel
theorem dc_B_mark_45 : decode mb_B_mark 45 = .ok (.i2l, 1) := by decide +kernel
theorem dc_B_mark_46 : decode mb_B_mark 46 = .ok (.lmul, 1) := by decide +kernel
theorem dc_B_mark_47 : decode mb_B_mark 47 = .ok (.ladd, 1) := by decide +kernel
theorem dc_B_mark_48 : decode mb_B_mark 48 = .ok (.lstore_n 3, 1) := by decide +kernel
theorem dc_B_mark_49 : decode mb_B_mark 49 = .ok (.iinc 5 1, 3) := by decide +kernel
theorem dc_B_mark_52 : decode mb_B_mark 52 = .ok (.goto (-39), 3) := by decide +kernel
theorem dc_B_mark_55 : decode mb_B_mark 55 = .ok (.lload_n 3, 1) := by decide +kernel
theorem dc_B_mark_56 : decode mb_B_mark 56 = .ok (.lreturn, 1) := by decide +kernel
theorem dc_B_find_0 : decode mb_B_find 0 = .ok (.aload_n 0, 1) := by decide +kernel
theorem dc_B_find_1 : decode mb_B_find 1 = .ok (.iload_n 1, 1) := by decide +kernel
theorem dc_B_find_2 : decode mb_B_find 2 = .ok (.invokevirtual 49, 3) := by decide +kernel
theorem dc_B_find_5 : decode mb_B_find 5 = .ok (.astore 6, 2) := by decide +kernel
theorem dc_B_find_7 : decode mb_B_find 7 = .ok (.aload_n 0, 1) := by decide +kernel
theorem dc_B_find_8 : decode mb_B_find 8 = .ok (.iload_n 2, 1) := by decide +kernel
theorem dc_B_find_9 : decode mb_B_find 9 = .ok (.invokevirtual 159, 3) := by decide +kernel
theorem dc_B_find_12 : decode mb_B_find 12 = .ok (.aload_n 0, 1) := by decide +kernel
theorem dc_B_find_13 : decode mb_B_find 13 = .ok (.aload 6, 2) := by decide +kernel
theorem dc_B_find_15 : decode mb_B_find 15 = .ok (.invokevirtual 187, 3) := by decide +kernel
theorem dc_B_find_18 : decode mb_B_find 18 = .ok (.aload_n 0, 1) := by decide +kernel
theorem dc_B_find_19 : decode mb_B_find 19 = .ok (.getfield 26, 3) := by decide +kernel
theorem dc_B_find_22 : decode mb_B_find 22 = .ok (.aload 6, 2) := by decide +kernel
theorem dc_B_find_24 : decode mb_B_find 24 = .ok (.iconst 0, 1) := by decide +kernel
theorem dc_B_find_25 : decode mb_B_find 25 = .ok (.aload 6, 2) := by decide +kernel
theorem dc_B_find_27 : decode mb_B_find 27 = .ok (.getfield 53, 3) := by decide +kernel
theorem dc_B_find_30 : decode mb_B_find 30 = .ok (.lload_n 3, 1) := by decide +kernel
theorem dc_B_find_31 : decode mb_B_find 31 = .ok (.iconst 0, 1) := by decide +kernel
theorem dc_B_find_32 : decode mb_B_find 32 = .ok (.iload 5, 2) := by decide +kernel
theorem dc_B_find_34 : decode mb_B_find 34 = .ok (.invokevirtual 174, 3) := by decide +kernel
theorem dc_B_find_37 : decode mb_B_find 37 = .ok (.ireturn, 1) := by decide +kernel
/-- the mark of n entries -/
def zmk (f : Nat → Int64 × Int32) : Nat → Int64
  | 0 => 7
  | n + 1 => 31 * zmk f n + (f n).1 + 17 * Int32.toInt64 (f n).2
set_option maxHeartbeats 4000000 in
set_option maxRecDepth 100000 in
theorem ct_B_add (l : Launch) (g : YG) (S : YS) (k n : Nat) (hk : k < 4) (hn : n ≤ 1024) (hc : gF S (2 + k) 2 = nI n) (hf : n < 1024) (a : Int64) (t : Int32) : yC l mn_B_add mb_B_add 6 (some .int) 2 g [.ref (g.ad (0)), .int (nI (k)), .long (a), .int (t)] S (fun v S' => v = some (.int (nI (n + 1))) ∧ S' = sF (yz S k (va_up (ye S k) n (a, t))) (2 + k) 2 (nI (n + 1))) := by
  refine yC_of (by decide) (Nat.le_of_ble_eq_true rfl) ?_
  intro o hl hg hB0 hE
  subst hl
  subst hg
  have hB : yB o mb_B_add "OrderBench" := hB0
  have hm := hE.1
  show yW o (S) 0 [(0, .ref (o.G.ad (0))), (1, .int (nI (k))), (2, .long (a)), (4, .int (t))] []
  have hk6 : k < 6 := by omega
  refine y_aload_n (pc' := 1) hB dc_B_add_0 rfl rfl 0 rfl ?_
  refine y_iload_n (pc' := 2) hB dc_B_add_1 rfl rfl 1 rfl ?_
  refine y_callV (c := 0) (ci := 0) (As := [.int (nI (k))]) (rest := []) (pc' := 5) hB hE (ct_B_rowAt o.l o.G (S) k hk) mm_B_rowAt q_137 q_139 qs_0 (by decide) rfl rfl dc_B_add_2 rfl (by decide) rfl rfl (Nat.le_of_ble_eq_true rfl) (fun v S' hpost => ?_)
  obtain ⟨rfl, hSS⟩ := hpost
  rw [hSS]
  clear hSS S'
  show yW o (S) 5 [(0, .ref (o.G.ad (0))), (1, .int (nI (k))), (2, .long (a)), (4, .int (t))] [.ref (o.G.ad (2 + k))]
  refine y_astore (pc' := 7) (lv' := [(5, .ref (o.G.ad (2 + k))), (0, .ref (o.G.ad (0))), (1, .int (nI (k))), (2, .long (a)), (4, .int (t))]) hB hm dc_B_add_5 rfl (by decide) rfl ?_
  refine y_aload (pc' := 9) hB dc_B_add_7 rfl 0 rfl ?_
  refine f_count (r := k) (pc' := 12) hB dc_B_add_9 rfl (by omega) q_53 ?_
  refine y_topi (y := nI (n)) hc ?_
  refine y_sipush (v := nI 1024) (pc' := 15) hB dc_B_add_12 rfl (by decide) ?_
  refine n_icmp_lt (pc' := 18) (tg := 28) hB dc_B_add_15 rfl rfl (by omega) (by omega) (fun b1 => ?_) (fun b1 => ?_)
  · refine y_aload (pc' := 30) hB dc_B_add_28 rfl 0 rfl ?_
    refine y_aload (pc' := 32) hB dc_B_add_30 rfl 0 rfl ?_
    refine f_count (r := k) (pc' := 35) hB dc_B_add_32 rfl (by omega) q_53 ?_
    refine y_topi (y := nI (n)) hc ?_
    refine y_lload_n (pc' := 36) hB dc_B_add_35 rfl rfl 3 rfl ?_
    refine y_iload (pc' := 38) hB dc_B_add_36 rfl 4 rfl ?_
    refine y_callV (c := 2 + k) (ci := 1) (As := [.int (nI (n)), .long (a), .int (t)]) (rest := []) (pc' := 41) hB hE (ct_R_put o.l o.G S k hk6 n hf a t) mm_R_put q_225 q_226 q_227 (by unfold yN; omega) (yk_row (by omega)).1 rfl dc_B_add_38 rfl (by decide) rfl rfl (Nat.le_of_ble_eq_true rfl) (fun v S' hpost => ?_)
    obtain ⟨rfl, hSS⟩ := hpost
    rw [hSS]
    clear hSS S'
    show yW o (yz S k (va_up (ye S k) n (a, t))) 41 [(5, .ref (o.G.ad (2 + k))), (0, .ref (o.G.ad (0))), (1, .int (nI (k))), (2, .long (a)), (4, .int (t))] []
    refine y_aload (pc' := 43) hB dc_B_add_41 rfl 0 rfl ?_
    refine y_dup (pc' := 44) hB dc_B_add_43 rfl rfl ?_
    refine f_count (r := k) (pc' := 47) hB dc_B_add_44 rfl (by omega) q_53 ?_
    refine y_topi (y := nI (n)) hc ?_
    refine y_iconst (v := nI 1) (pc' := 48) hB dc_B_add_47 rfl rfl ?_
    refine n_iadd (x := n) (y := 1) (pc' := 49) hB dc_B_add_48 rfl ?_
    refine p_count (r := k) (pc' := 52) hB dc_B_add_49 rfl (by omega) q_53 ?_
    refine y_aload (pc' := 54) hB dc_B_add_52 rfl 0 rfl ?_
    refine f_count (r := k) (pc' := 57) hB dc_B_add_54 rfl (by omega) q_53 ?_
    refine y_topi (y := nI (n + 1)) (by rw [gF_sF, if_pos ⟨rfl, rfl⟩]) ?_
    exact y_iret hB hE dc_B_add_57 ⟨rfl, rfl⟩
  · omega
set_option maxHeartbeats 4000000 in
set_option maxRecDepth 100000 in
theorem ct_B_cut (l : Launch) (g : YG) (S : YS) (k n : Nat) (hk : k < 4) (hn : n ≤ 1024) (hc : gF S (2 + k) 2 = nI n) (m : Nat) (hm2 : m ≤ n) : yC l mn_B_cut mb_B_cut 4 none 2 g [.ref (g.ad (0)), .int (nI (k)), .int (nI (m))] S (fun v S' => v = none ∧ S' = sF S (2 + k) 2 (nI m)) := by
  refine yC_of (by decide) (Nat.le_of_ble_eq_true rfl) ?_
  intro o hl hg hB0 hE
  subst hl
  subst hg
  have hB : yB o mb_B_cut "OrderBench" := hB0
  have hm := hE.1
  show yW o (S) 0 [(0, .ref (o.G.ad (0))), (1, .int (nI (k))), (2, .int (nI (m)))] []
  have hk6 : k < 6 := by omega
  refine y_aload_n (pc' := 1) hB dc_B_cut_0 rfl rfl 0 rfl ?_
  refine y_iload_n (pc' := 2) hB dc_B_cut_1 rfl rfl 1 rfl ?_
  refine y_callV (c := 0) (ci := 0) (As := [.int (nI (k))]) (rest := []) (pc' := 5) hB hE (ct_B_rowAt o.l o.G (S) k hk) mm_B_rowAt q_137 q_139 qs_0 (by decide) rfl rfl dc_B_cut_2 rfl (by decide) rfl rfl (Nat.le_of_ble_eq_true rfl) (fun v S' hpost => ?_)
  obtain ⟨rfl, hSS⟩ := hpost
  rw [hSS]
  clear hSS S'
  show yW o (S) 5 [(0, .ref (o.G.ad (0))), (1, .int (nI (k))), (2, .int (nI (m)))] [.ref (o.G.ad (2 + k))]
  refine y_astore_n (pc' := 6) (lv' := [(3, .ref (o.G.ad (2 + k))), (0, .ref (o.G.ad (0))), (1, .int (nI (k))), (2, .int (nI (m)))]) hB hm dc_B_cut_5 rfl rfl (by decide) rfl ?_
  refine y_iload_n (pc' := 7) hB dc_B_cut_6 rfl rfl 3 rfl ?_
  refine n_if_lt (pc' := 10) (tg := 18) hB dc_B_cut_7 rfl rfl (by omega) ?_
  refine y_iload_n (pc' := 11) hB dc_B_cut_10 rfl rfl 3 rfl ?_
  refine y_aload_n (pc' := 12) hB dc_B_cut_11 rfl rfl 0 rfl ?_
  refine f_count (r := k) (pc' := 15) hB dc_B_cut_12 rfl (by omega) q_53 ?_
  refine y_topi (y := nI (n)) hc ?_
  refine n_icmp_le (pc' := 18) (tg := 28) hB dc_B_cut_15 rfl rfl (by omega) (by omega) (fun b2 => ?_) (fun b2 => ?_)
  · refine y_aload_n (pc' := 29) hB dc_B_cut_28 rfl rfl 0 rfl ?_
    refine y_iload_n (pc' := 30) hB dc_B_cut_29 rfl rfl 3 rfl ?_
    refine p_count (r := k) (pc' := 33) hB dc_B_cut_30 rfl (by omega) q_53 ?_
    exact y_vret hB hE dc_B_cut_33 ⟨rfl, rfl⟩
  · omega
set_option maxHeartbeats 4000000 in
set_option maxRecDepth 100000 in
theorem ct_B_swap (l : Launch) (g : YG) (S : YS) (k n : Nat) (hk : k < 4) (hn : n ≤ 1024) (hc : gF S (2 + k) 2 = nI n) (i j : Nat) (hi : i < n) (hj : j < n) : yC l mn_B_swap mb_B_swap 5 none 2 g [.ref (g.ad (0)), .int (nI (k)), .int (nI (i)), .int (nI (j))] S (fun v S' => v = none ∧ S' = yz S k (zw (ye S k) i j)) := by
  refine yC_of (by decide) (Nat.le_of_ble_eq_true rfl) ?_
  intro o hl hg hB0 hE
  subst hl
  subst hg
  have hB : yB o mb_B_swap "OrderBench" := hB0
  have hm := hE.1
  show yW o (S) 0 [(0, .ref (o.G.ad (0))), (1, .int (nI (k))), (2, .int (nI (i))), (3, .int (nI (j)))] []
  have hk6 : k < 6 := by omega
  refine y_aload_n (pc' := 1) hB dc_B_swap_0 rfl rfl 0 rfl ?_
  refine y_iload_n (pc' := 2) hB dc_B_swap_1 rfl rfl 1 rfl ?_
  refine y_callV (c := 0) (ci := 0) (As := [.int (nI (k))]) (rest := []) (pc' := 5) hB hE (ct_B_rowAt o.l o.G (S) k hk) mm_B_rowAt q_137 q_139 qs_0 (by decide) rfl rfl dc_B_swap_2 rfl (by decide) rfl rfl (Nat.le_of_ble_eq_true rfl) (fun v S' hpost => ?_)
  obtain ⟨rfl, hSS⟩ := hpost
  rw [hSS]
  clear hSS S'
  show yW o (S) 5 [(0, .ref (o.G.ad (0))), (1, .int (nI (k))), (2, .int (nI (i))), (3, .int (nI (j)))] [.ref (o.G.ad (2 + k))]
  refine y_astore (pc' := 7) (lv' := [(4, .ref (o.G.ad (2 + k))), (0, .ref (o.G.ad (0))), (1, .int (nI (k))), (2, .int (nI (i))), (3, .int (nI (j)))]) hB hm dc_B_swap_5 rfl (by decide) rfl ?_
  refine y_aload (pc' := 9) hB dc_B_swap_7 rfl 0 rfl ?_
  refine y_iload_n (pc' := 10) hB dc_B_swap_9 rfl rfl 3 rfl ?_
  refine y_callS (As := [.ref (o.G.ad (2 + k)), .int (nI (i))]) (rest := []) (pc' := 13) hB hE (ct_B_checkEntry o.l o.G S k hk6 n hn hc i hi) mm_B_checkEntry q_283 q_284 dc_B_swap_10 rfl (by decide) rfl rfl (Nat.le_of_ble_eq_true rfl) (fun v S' hpost => ?_)
  obtain ⟨rfl, hSS⟩ := hpost
  rw [hSS]
  clear hSS S'
  show yW o (S) 13 [(4, .ref (o.G.ad (2 + k))), (0, .ref (o.G.ad (0))), (1, .int (nI (k))), (2, .int (nI (i))), (3, .int (nI (j)))] []
  refine y_aload (pc' := 15) hB dc_B_swap_13 rfl 0 rfl ?_
  refine y_iload_n (pc' := 16) hB dc_B_swap_15 rfl rfl 4 rfl ?_
  refine y_callS (As := [.ref (o.G.ad (2 + k)), .int (nI (j))]) (rest := []) (pc' := 19) hB hE (ct_B_checkEntry o.l o.G S k hk6 n hn hc j hj) mm_B_checkEntry q_283 q_284 dc_B_swap_16 rfl (by decide) rfl rfl (Nat.le_of_ble_eq_true rfl) (fun v S' hpost => ?_)
  obtain ⟨rfl, hSS⟩ := hpost
  rw [hSS]
  clear hSS S'
  show yW o (S) 19 [(4, .ref (o.G.ad (2 + k))), (0, .ref (o.G.ad (0))), (1, .int (nI (k))), (2, .int (nI (i))), (3, .int (nI (j)))] []
  refine y_aload (pc' := 21) hB dc_B_swap_19 rfl 0 rfl ?_
  refine y_iload_n (pc' := 22) hB dc_B_swap_21 rfl rfl 3 rfl ?_
  refine y_iload_n (pc' := 23) hB dc_B_swap_22 rfl rfl 4 rfl ?_
  refine y_callV (c := 2 + k) (ci := 1) (As := [.int (nI (i)), .int (nI (j))]) (rest := []) (pc' := 26) hB hE (ct_R_change o.l o.G S k hk6 i j (by omega) (by omega)) mm_R_change q_287 q_288 q_289 (by unfold yN; omega) (yk_row (by omega)).1 rfl dc_B_swap_23 rfl (by decide) rfl rfl (Nat.le_of_ble_eq_true rfl) (fun v S' hpost => ?_)
  obtain ⟨rfl, hSS⟩ := hpost
  rw [hSS]
  clear hSS S'
  show yW o (yz S k (zw (ye S k) i j)) 26 [(4, .ref (o.G.ad (2 + k))), (0, .ref (o.G.ad (0))), (1, .int (nI (k))), (2, .int (nI (i))), (3, .int (nI (j)))] []
  exact y_vret hB hE dc_B_swap_26 ⟨rfl, rfl⟩
set_option maxHeartbeats 4000000 in
set_option maxRecDepth 100000 in
theorem ct_B_size (l : Launch) (g : YG) (S : YS) (k n : Nat) (hk : k < 4) (hn : n ≤ 1024) (hc : gF S (2 + k) 2 = nI n)  : yC l mn_B_size mb_B_size 2 (some .int) 2 g [.ref (g.ad (0)), .int (nI (k))] S (fun v S' => v = some (.int (nI n)) ∧ S' = S) := by
  refine yC_of (by decide) (Nat.le_of_ble_eq_true rfl) ?_
  intro o hl hg hB0 hE
  subst hl
  subst hg
  have hB : yB o mb_B_size "OrderBench" := hB0
  have hm := hE.1
  show yW o (S) 0 [(0, .ref (o.G.ad (0))), (1, .int (nI (k)))] []
  have hk6 : k < 6 := by omega
  refine y_aload_n (pc' := 1) hB dc_B_size_0 rfl rfl 0 rfl ?_
  refine y_iload_n (pc' := 2) hB dc_B_size_1 rfl rfl 1 rfl ?_
  refine y_callV (c := 0) (ci := 0) (As := [.int (nI (k))]) (rest := []) (pc' := 5) hB hE (ct_B_rowAt o.l o.G (S) k hk) mm_B_rowAt q_137 q_139 qs_0 (by decide) rfl rfl dc_B_size_2 rfl (by decide) rfl rfl (Nat.le_of_ble_eq_true rfl) (fun v S' hpost => ?_)
  obtain ⟨rfl, hSS⟩ := hpost
  rw [hSS]
  clear hSS S'
  show yW o (S) 5 [(0, .ref (o.G.ad (0))), (1, .int (nI (k)))] [.ref (o.G.ad (2 + k))]
  refine f_count (r := k) (pc' := 8) hB dc_B_size_5 rfl (by omega) q_53 ?_
  refine y_topi (y := nI (n)) hc ?_
  exact y_iret hB hE dc_B_size_8 ⟨rfl, rfl⟩
set_option maxHeartbeats 4000000 in
set_option maxRecDepth 100000 in
theorem ct_B_key (l : Launch) (g : YG) (S : YS) (k n : Nat) (hk : k < 4) (hn : n ≤ 1024) (hc : gF S (2 + k) 2 = nI n) (i : Nat) (hi : i < n) : yC l mn_B_key mb_B_key 4 (some .long) 2 g [.ref (g.ad (0)), .int (nI (k)), .int (nI (i))] S (fun v S' => v = some (.long ((ye S k) i).1) ∧ S' = S) := by
  refine yC_of (by decide) (Nat.le_of_ble_eq_true rfl) ?_
  intro o hl hg hB0 hE
  subst hl
  subst hg
  have hB : yB o mb_B_key "OrderBench" := hB0
  have hm := hE.1
  show yW o (S) 0 [(0, .ref (o.G.ad (0))), (1, .int (nI (k))), (2, .int (nI (i)))] []
  have hk6 : k < 6 := by omega
  refine y_aload_n (pc' := 1) hB dc_B_key_0 rfl rfl 0 rfl ?_
  refine y_iload_n (pc' := 2) hB dc_B_key_1 rfl rfl 1 rfl ?_
  refine y_callV (c := 0) (ci := 0) (As := [.int (nI (k))]) (rest := []) (pc' := 5) hB hE (ct_B_rowAt o.l o.G (S) k hk) mm_B_rowAt q_137 q_139 qs_0 (by decide) rfl rfl dc_B_key_2 rfl (by decide) rfl rfl (Nat.le_of_ble_eq_true rfl) (fun v S' hpost => ?_)
  obtain ⟨rfl, hSS⟩ := hpost
  rw [hSS]
  clear hSS S'
  show yW o (S) 5 [(0, .ref (o.G.ad (0))), (1, .int (nI (k))), (2, .int (nI (i)))] [.ref (o.G.ad (2 + k))]
  refine y_astore_n (pc' := 6) (lv' := [(3, .ref (o.G.ad (2 + k))), (0, .ref (o.G.ad (0))), (1, .int (nI (k))), (2, .int (nI (i)))]) hB hm dc_B_key_5 rfl rfl (by decide) rfl ?_
  refine y_aload_n (pc' := 7) hB dc_B_key_6 rfl rfl 0 rfl ?_
  refine y_iload_n (pc' := 8) hB dc_B_key_7 rfl rfl 3 rfl ?_
  refine y_callS (As := [.ref (o.G.ad (2 + k)), .int (nI (i))]) (rest := []) (pc' := 11) hB hE (ct_B_checkEntry o.l o.G S k hk6 n hn hc i hi) mm_B_checkEntry q_283 q_284 dc_B_key_8 rfl (by decide) rfl rfl (Nat.le_of_ble_eq_true rfl) (fun v S' hpost => ?_)
  obtain ⟨rfl, hSS⟩ := hpost
  rw [hSS]
  clear hSS S'
  show yW o (S) 11 [(3, .ref (o.G.ad (2 + k))), (0, .ref (o.G.ad (0))), (1, .int (nI (k))), (2, .int (nI (i)))] []
  refine y_aload_n (pc' := 12) hB dc_B_key_11 rfl rfl 0 rfl ?_
  refine f_keys (r := k) (pc' := 15) hB dc_B_key_12 rfl (by omega) q_40 ?_
  refine y_iload_n (pc' := 16) hB dc_B_key_15 rfl rfl 3 rfl ?_
  refine y_lald (c := 8 + k) (n := 1024) (j := i) (pc' := 17) hB dc_B_key_16 rfl (by unfold yN; omega) (yk_row (by omega)).2.1 (by omega) (by decide) ?_
  exact y_lret hB hE dc_B_key_17 ⟨rfl, rfl⟩
set_option maxHeartbeats 4000000 in
set_option maxRecDepth 100000 in
theorem ct_B_tag (l : Launch) (g : YG) (S : YS) (k n : Nat) (hk : k < 4) (hn : n ≤ 1024) (hc : gF S (2 + k) 2 = nI n) (i : Nat) (hi : i < n) : yC l mn_B_tag mb_B_tag 4 (some .int) 2 g [.ref (g.ad (0)), .int (nI (k)), .int (nI (i))] S (fun v S' => v = some (.int ((ye S k) i).2) ∧ S' = S) := by
  refine yC_of (by decide) (Nat.le_of_ble_eq_true rfl) ?_
  intro o hl hg hB0 hE
  subst hl
  subst hg
  have hB : yB o mb_B_tag "OrderBench" := hB0
  have hm := hE.1
  show yW o (S) 0 [(0, .ref (o.G.ad (0))), (1, .int (nI (k))), (2, .int (nI (i)))] []
  have hk6 : k < 6 := by omega
  refine y_aload_n (pc' := 1) hB dc_B_tag_0 rfl rfl 0 rfl ?_
  refine y_iload_n (pc' := 2) hB dc_B_tag_1 rfl rfl 1 rfl ?_
  refine y_callV (c := 0) (ci := 0) (As := [.int (nI (k))]) (rest := []) (pc' := 5) hB hE (ct_B_rowAt o.l o.G (S) k hk) mm_B_rowAt q_137 q_139 qs_0 (by decide) rfl rfl dc_B_tag_2 rfl (by decide) rfl rfl (Nat.le_of_ble_eq_true rfl) (fun v S' hpost => ?_)
  obtain ⟨rfl, hSS⟩ := hpost
  rw [hSS]
  clear hSS S'
  show yW o (S) 5 [(0, .ref (o.G.ad (0))), (1, .int (nI (k))), (2, .int (nI (i)))] [.ref (o.G.ad (2 + k))]
  refine y_astore_n (pc' := 6) (lv' := [(3, .ref (o.G.ad (2 + k))), (0, .ref (o.G.ad (0))), (1, .int (nI (k))), (2, .int (nI (i)))]) hB hm dc_B_tag_5 rfl rfl (by decide) rfl ?_
  refine y_aload_n (pc' := 7) hB dc_B_tag_6 rfl rfl 0 rfl ?_
  refine y_iload_n (pc' := 8) hB dc_B_tag_7 rfl rfl 3 rfl ?_
  refine y_callS (As := [.ref (o.G.ad (2 + k)), .int (nI (i))]) (rest := []) (pc' := 11) hB hE (ct_B_checkEntry o.l o.G S k hk6 n hn hc i hi) mm_B_checkEntry q_283 q_284 dc_B_tag_8 rfl (by decide) rfl rfl (Nat.le_of_ble_eq_true rfl) (fun v S' hpost => ?_)
  obtain ⟨rfl, hSS⟩ := hpost
  rw [hSS]
  clear hSS S'
  show yW o (S) 11 [(3, .ref (o.G.ad (2 + k))), (0, .ref (o.G.ad (0))), (1, .int (nI (k))), (2, .int (nI (i)))] []
  refine y_aload_n (pc' := 12) hB dc_B_tag_11 rfl rfl 0 rfl ?_
  refine f_tags (r := k) (pc' := 15) hB dc_B_tag_12 rfl (by omega) q_49 ?_
  refine y_iload_n (pc' := 16) hB dc_B_tag_15 rfl rfl 3 rfl ?_
  refine y_iald (c := 14 + k) (n := 1024) (j := i) (pc' := 17) hB dc_B_tag_16 rfl (by unfold yN; omega) (yk_row (by omega)).2.2 (by omega) (by decide) ?_
  exact y_iret hB hE dc_B_tag_17 ⟨rfl, rfl⟩
set_option maxHeartbeats 4000000 in
set_option maxRecDepth 100000 in
theorem ct_B_within (l : Launch) (g : YG) (S : YS) (h : gF S 0 6 = nI 1) : yC l mn_B_within mb_B_within 1 (some .boolean) 2 g [.ref (g.ad (0))] S (fun v S' => v = some (.int 1) ∧ S' = S) := by
  refine yC_of (by decide) (Nat.le_of_ble_eq_true rfl) ?_
  intro o hl hg hB0 hE
  subst hl
  subst hg
  have hB : yB o mb_B_within "OrderBench" := hB0
  have hm := hE.1
  show yW o (S) 0 [(0, .ref (o.G.ad (0)))] []
  refine y_aload_n (pc' := 1) hB dc_B_within_0 rfl rfl 0 rfl ?_
  refine f_B_keptLimit (pc' := 4) hB dc_B_within_1 rfl q_108 ?_
  refine y_topi (y := 1) h ?_
  exact y_zret hB hE dc_B_within_4 (Or.inr rfl) ⟨rfl, rfl⟩
set_option maxHeartbeats 4000000 in
set_option maxRecDepth 100000 in
theorem ct_B_sorted (l : Launch) (g : YG) (S : YS) (k n : Nat) (hk : k < 4) (hn : n ≤ 1024) (hc : gF S (2 + k) 2 = nI n) (od : Nat) (ho : od < 8) : yC l mn_B_sorted mb_B_sorted 4 (some .boolean) 6 g [.ref (g.ad (0)), .int (nI (k)), .int (nI (od))] S (fun v S' => ∃ bo : Bool, v = some (.int (yb bo)) ∧ yU S S' ∧ (bo = true ↔ zo (zq od false) (zs (ye S k) 0 n))) := by
  refine yC_of (by decide) (Nat.le_of_ble_eq_true rfl) ?_
  intro o hl hg hB0 hE
  subst hl
  subst hg
  have hB : yB o mb_B_sorted "OrderBench" := hB0
  have hm := hE.1
  show yW o (S) 0 [(0, .ref (o.G.ad (0))), (1, .int (nI (k))), (2, .int (nI (od)))] []
  have hk6 : k < 6 := by omega
  refine y_aload_n (pc' := 1) hB dc_B_sorted_0 rfl rfl 0 rfl ?_
  refine y_iload_n (pc' := 2) hB dc_B_sorted_1 rfl rfl 1 rfl ?_
  refine y_callV (c := 0) (ci := 0) (As := [.int (nI (k))]) (rest := []) (pc' := 5) hB hE (ct_B_rowAt o.l o.G (S) k hk) mm_B_rowAt q_137 q_139 qs_0 (by decide) rfl rfl dc_B_sorted_2 rfl (by decide) rfl rfl (Nat.le_of_ble_eq_true rfl) (fun v S' hpost => ?_)
  obtain ⟨rfl, hSS⟩ := hpost
  rw [hSS]
  clear hSS S'
  show yW o (S) 5 [(0, .ref (o.G.ad (0))), (1, .int (nI (k))), (2, .int (nI (od)))] [.ref (o.G.ad (2 + k))]
  refine y_astore_n (pc' := 6) (lv' := [(3, .ref (o.G.ad (2 + k))), (0, .ref (o.G.ad (0))), (1, .int (nI (k))), (2, .int (nI (od)))]) hB hm dc_B_sorted_5 rfl rfl (by decide) rfl ?_
  refine y_aload_n (pc' := 7) hB dc_B_sorted_6 rfl rfl 1 rfl ?_
  refine y_iload_n (pc' := 8) hB dc_B_sorted_7 rfl rfl 3 rfl ?_
  refine y_callV (c := 0) (ci := 0) (As := [.int (nI (od))]) (rest := []) (pc' := 11) hB hE (ct_B_judgeBy o.l o.G S od ho) mm_B_judgeBy q_540 q_542 qs_8 (by decide) rfl rfl dc_B_sorted_8 rfl (by decide) rfl rfl (Nat.le_of_ble_eq_true rfl) (fun v S' hpost => ?_)
  obtain ⟨rfl, hSS⟩ := hpost
  rw [hSS]
  clear hSS S'
  show yW o (yj S od false) 11 [(3, .ref (o.G.ad (2 + k))), (0, .ref (o.G.ad (0))), (1, .int (nI (k))), (2, .int (nI (od)))] []
  refine y_aload_n (pc' := 12) hB dc_B_sorted_11 rfl rfl 1 rfl ?_
  refine y_aload_n (pc' := 13) hB dc_B_sorted_12 rfl rfl 0 rfl ?_
  refine y_callV (c := 0) (ci := 0) (As := [.ref (o.G.ad (2 + k))]) (rest := []) (pc' := 16) hB hE (ct_B_isInOrder o.l o.G (yj S od false) od false 0 (yj_J S false ho) k hk6 n hn ((yj_n S od false hk6).trans hc)) mm_B_isInOrder q_544 q_546 qs_9 (by decide) rfl rfl dc_B_sorted_13 rfl (by decide) rfl rfl (Nat.le_of_ble_eq_true rfl) (fun v S' hpost => ?_)
  obtain ⟨bo, c1, rfl, rfl, m1⟩ := hpost
  show yW o (yq (yj S od false) c1) 16 [(3, .ref (o.G.ad (2 + k))), (0, .ref (o.G.ad (0))), (1, .int (nI (k))), (2, .int (nI (od)))] [.int (yb bo)]
  exact y_zret hB hE dc_B_sorted_16 (yb_or bo) ⟨bo, rfl, (yU_yj S od false).tr (yU_yq _ _), m1⟩
set_option maxHeartbeats 4000000 in
set_option maxRecDepth 100000 in
theorem ct_B_mark (l : Launch) (g : YG) (S : YS) (k n : Nat) (hk : k < 4) (hn : n ≤ 1024) (hc : gF S (2 + k) 2 = nI n)  : yC l mn_B_mark mb_B_mark 6 (some .long) 2 g [.ref (g.ad (0)), .int (nI (k))] S (fun v S' => v = some (.long (zmk (ye S k) n)) ∧ S' = S) := by
  refine yC_of (by decide) (Nat.le_of_ble_eq_true rfl) ?_
  intro o hl hg hB0 hE
  subst hl
  subst hg
  have hB : yB o mb_B_mark "OrderBench" := hB0
  have hm := hE.1
  show yW o (S) 0 [(0, .ref (o.G.ad (0))), (1, .int (nI (k)))] []
  have hk6 : k < 6 := by omega
  refine y_aload_n (pc' := 1) hB dc_B_mark_0 rfl rfl 0 rfl ?_
  refine y_iload_n (pc' := 2) hB dc_B_mark_1 rfl rfl 1 rfl ?_
  refine y_callV (c := 0) (ci := 0) (As := [.int (nI (k))]) (rest := []) (pc' := 5) hB hE (ct_B_rowAt o.l o.G (S) k hk) mm_B_rowAt q_137 q_139 qs_0 (by decide) rfl rfl dc_B_mark_2 rfl (by decide) rfl rfl (Nat.le_of_ble_eq_true rfl) (fun v S' hpost => ?_)
  obtain ⟨rfl, hSS⟩ := hpost
  rw [hSS]
  clear hSS S'
  show yW o (S) 5 [(0, .ref (o.G.ad (0))), (1, .int (nI (k)))] [.ref (o.G.ad (2 + k))]
  refine y_astore_n (pc' := 6) (lv' := [(2, .ref (o.G.ad (2 + k))), (0, .ref (o.G.ad (0))), (1, .int (nI (k)))]) hB hm dc_B_mark_5 rfl rfl (by decide) rfl ?_
  refine y_ldc2 (v := 7) (pc' := 9) hB dc_B_mark_6 rfl q_264 ?_
  refine y_lstore_n (pc' := 10) (lv' := [(3, .long (7)), (2, .ref (o.G.ad (2 + k))), (0, .ref (o.G.ad (0))), (1, .int (nI (k)))]) hB hm dc_B_mark_9 rfl rfl (by decide) rfl ?_
  refine y_iconst (v := nI 0) (pc' := 11) hB dc_B_mark_10 rfl rfl ?_
  refine y_istore (pc' := 13) (lv' := [(5, .int (nI (0))), (3, .long (7)), (2, .ref (o.G.ad (2 + k))), (0, .ref (o.G.ad (0))), (1, .int (nI (k)))]) hB hm dc_B_mark_11 rfl (by decide) rfl ?_
  have loop : ∀ (d : Nat) (i : Nat), n - i < d → i ≤ n → yW o (S) 13 [(5, .int (nI (i))), (3, .long (zmk (ye S k) i)), (2, .ref (o.G.ad (2 + k))), (0, .ref (o.G.ad (0))), (1, .int (nI (k)))] [] := by
    intro d
    induction d with
    | zero => intro i hd; omega
    | succ d ih =>
      intro i hd h1
      refine y_iload (pc' := 15) hB dc_B_mark_13 rfl 0 rfl ?_
      refine y_aload_n (pc' := 16) hB dc_B_mark_15 rfl rfl 2 rfl ?_
      refine f_count (r := k) (pc' := 19) hB dc_B_mark_16 rfl (by omega) q_53 ?_
      refine y_topi (y := nI (n)) hc ?_
      refine n_icmp_ge (pc' := 22) (tg := 55) hB dc_B_mark_19 rfl rfl (by omega) (by omega) (fun b1 => ?_) (fun b1 => ?_)
      · refine y_lload_n (pc' := 56) hB dc_B_mark_55 rfl rfl 1 rfl ?_
        have e : i = n := by omega
        subst e
        exact y_lret hB hE dc_B_mark_56 ⟨rfl, rfl⟩
      · refine y_ldc2 (v := 31) (pc' := 25) hB dc_B_mark_22 rfl q_631 ?_
        refine y_lload_n (pc' := 26) hB dc_B_mark_25 rfl rfl 1 rfl ?_
        refine y_lmul (v := 31 * (zmk (ye S k) i)) (pc' := 27) hB dc_B_mark_26 rfl rfl ?_
        refine y_aload_n (pc' := 28) hB dc_B_mark_27 rfl rfl 2 rfl ?_
        refine f_keys (r := k) (pc' := 31) hB dc_B_mark_28 rfl (by omega) q_40 ?_
        refine y_iload (pc' := 33) hB dc_B_mark_31 rfl 0 rfl ?_
        refine y_lald (c := 8 + k) (n := 1024) (j := i) (pc' := 34) hB dc_B_mark_33 rfl (by unfold yN; omega) (yk_row (by omega)).2.1 (by omega) (by decide) ?_
        refine y_ladd (v := (31 * (zmk (ye S k) i)) + (gL (S) (8 + k) (i))) (pc' := 35) hB dc_B_mark_34 rfl rfl ?_
        refine y_ldc2 (v := 17) (pc' := 38) hB dc_B_mark_35 rfl q_632 ?_
        refine y_aload_n (pc' := 39) hB dc_B_mark_38 rfl rfl 2 rfl ?_
        refine f_tags (r := k) (pc' := 42) hB dc_B_mark_39 rfl (by omega) q_49 ?_
        refine y_iload (pc' := 44) hB dc_B_mark_42 rfl 0 rfl ?_
        refine y_iald (c := 14 + k) (n := 1024) (j := i) (pc' := 45) hB dc_B_mark_44 rfl (by unfold yN; omega) (yk_row (by omega)).2.2 (by omega) (by decide) ?_
        refine y_i2l (v := Int32.toInt64 (gI (S) (14 + k) (i))) (pc' := 46) hB dc_B_mark_45 rfl rfl ?_
        refine y_lmul (v := 17 * (Int32.toInt64 (gI (S) (14 + k) (i)))) (pc' := 47) hB dc_B_mark_46 rfl rfl ?_
        refine y_ladd (v := ((31 * (zmk (ye S k) i)) + (gL (S) (8 + k) (i))) + (17 * (Int32.toInt64 (gI (S) (14 + k) (i))))) (pc' := 48) hB dc_B_mark_47 rfl rfl ?_
        refine y_lstore_n (pc' := 49) (lv' := [(3, .long (((31 * (zmk (ye S k) i)) + (gL (S) (8 + k) (i))) + (17 * (Int32.toInt64 (gI (S) (14 + k) (i)))))), (5, .int (nI (i))), (2, .ref (o.G.ad (2 + k))), (0, .ref (o.G.ad (0))), (1, .int (nI (k)))]) hB hm dc_B_mark_48 rfl rfl (by decide) rfl ?_
        refine n_inc (q := 1) (z := 1) (pc' := 52) (lv' := [(5, .int (nI (i + 1))), (3, .long (((31 * (zmk (ye S k) i)) + (gL (S) (8 + k) (i))) + (17 * (Int32.toInt64 (gI (S) (14 + k) (i)))))), (2, .ref (o.G.ad (2 + k))), (0, .ref (o.G.ad (0))), (1, .int (nI (k)))]) hB hm dc_B_mark_49 rfl rfl (by decide) rfl ?_
        refine y_goto (tg := 13) hB dc_B_mark_52 rfl ?_
        refine y_sub [0, 1, 2, 3, 4] rfl ?_
        exact ih (i + 1) (by omega) b1
  exact loop (n + 1) 0 (by omega) (by omega)
set_option maxHeartbeats 4000000 in
set_option maxRecDepth 100000 in
theorem ct_B_find (l : Launch) (g : YG) (S : YS) (k n : Nat) (hk : k < 4) (hn : n ≤ 1024) (hc : gF S (2 + k) 2 = nI n) (od : Nat) (ho : od < 8) (hs : zo (zq od false) (zs (ye S k) 0 n)) (a : Int64) (bh : Bool) : yC l mn_B_find mb_B_find 7 (some .int) 7 g [.ref (g.ad (0)), .int (nI (k)), .int (nI (od)), .long (a), .int (yb bh)] S (fun v S' => ∃ p, v = some (.int (nI p)) ∧ yU S S' ∧ p ≤ n ∧ (∀ j, j < p → zcd bh (zr od ((ye S k) j).1) (zr od a)) ∧ (∀ j, p ≤ j → j < n → ¬ zcd bh (zr od ((ye S k) j).1) (zr od a))) := by
  refine yC_of (by decide) (Nat.le_of_ble_eq_true rfl) ?_
  intro o hl hg hB0 hE
  subst hl
  subst hg
  have hB : yB o mb_B_find "OrderBench" := hB0
  have hm := hE.1
  show yW o (S) 0 [(0, .ref (o.G.ad (0))), (1, .int (nI (k))), (2, .int (nI (od))), (3, .long (a)), (5, .int (yb bh))] []
  have hk6 : k < 6 := by omega
  refine y_aload_n (pc' := 1) hB dc_B_find_0 rfl rfl 0 rfl ?_
  refine y_iload_n (pc' := 2) hB dc_B_find_1 rfl rfl 1 rfl ?_
  refine y_callV (c := 0) (ci := 0) (As := [.int (nI (k))]) (rest := []) (pc' := 5) hB hE (ct_B_rowAt o.l o.G (S) k hk) mm_B_rowAt q_137 q_139 qs_0 (by decide) rfl rfl dc_B_find_2 rfl (by decide) rfl rfl (Nat.le_of_ble_eq_true rfl) (fun v S' hpost => ?_)
  obtain ⟨rfl, hSS⟩ := hpost
  rw [hSS]
  clear hSS S'
  show yW o (S) 5 [(0, .ref (o.G.ad (0))), (1, .int (nI (k))), (2, .int (nI (od))), (3, .long (a)), (5, .int (yb bh))] [.ref (o.G.ad (2 + k))]
  refine y_astore (pc' := 7) (lv' := [(6, .ref (o.G.ad (2 + k))), (0, .ref (o.G.ad (0))), (1, .int (nI (k))), (2, .int (nI (od))), (3, .long (a)), (5, .int (yb bh))]) hB hm dc_B_find_5 rfl (by decide) rfl ?_
  refine y_aload_n (pc' := 8) hB dc_B_find_7 rfl rfl 1 rfl ?_
  refine y_iload_n (pc' := 9) hB dc_B_find_8 rfl rfl 3 rfl ?_
  refine y_callV (c := 0) (ci := 0) (As := [.int (nI (od))]) (rest := []) (pc' := 12) hB hE (ct_B_judgeBy o.l o.G S od ho) mm_B_judgeBy q_540 q_542 qs_8 (by decide) rfl rfl dc_B_find_9 rfl (by decide) rfl rfl (Nat.le_of_ble_eq_true rfl) (fun v S' hpost => ?_)
  obtain ⟨rfl, hSS⟩ := hpost
  rw [hSS]
  clear hSS S'
  show yW o (yj S od false) 12 [(6, .ref (o.G.ad (2 + k))), (0, .ref (o.G.ad (0))), (1, .int (nI (k))), (2, .int (nI (od))), (3, .long (a)), (5, .int (yb bh))] []
  refine y_aload_n (pc' := 13) hB dc_B_find_12 rfl rfl 1 rfl ?_
  refine y_aload (pc' := 15) hB dc_B_find_13 rfl 0 rfl ?_
  refine y_callV (c := 0) (ci := 0) (As := [.ref (o.G.ad (2 + k))]) (rest := []) (pc' := 18) hB hE (ct_B_checkInOrder o.l o.G (yj S od false) od false 0 (yj_J S false ho) k hk6 n hn ((yj_n S od false hk6).trans hc) hs) mm_B_checkInOrder q_589 q_591 qs_10 (by decide) rfl rfl dc_B_find_15 rfl (by decide) rfl rfl (Nat.le_of_ble_eq_true rfl) (fun v S' hpost => ?_)
  obtain ⟨c1, rfl, rfl⟩ := hpost
  show yW o (yq (yj S od false) c1) 18 [(6, .ref (o.G.ad (2 + k))), (0, .ref (o.G.ad (0))), (1, .int (nI (k))), (2, .int (nI (od))), (3, .long (a)), (5, .int (yb bh))] []
  refine y_aload_n (pc' := 19) hB dc_B_find_18 rfl rfl 1 rfl ?_
  refine f_B_judge (pc' := 22) hB dc_B_find_19 rfl q_105 ?_
  refine y_aload (pc' := 24) hB dc_B_find_22 rfl 0 rfl ?_
  refine y_iconst (v := nI 0) (pc' := 25) hB dc_B_find_24 rfl rfl ?_
  refine y_aload (pc' := 27) hB dc_B_find_25 rfl 0 rfl ?_
  refine f_count (r := k) (pc' := 30) hB dc_B_find_27 rfl (by omega) q_53 ?_
  refine y_topi (y := nI (n)) ((gF_yq (yj S od false) c1 k hk6).trans ((yj_n S od false hk6).trans hc)) ?_
  refine y_lload_n (pc' := 31) hB dc_B_find_30 rfl rfl 4 rfl ?_
  refine y_iconst (v := nI 0) (pc' := 32) hB dc_B_find_31 rfl rfl ?_
  refine y_iload (pc' := 34) hB dc_B_find_32 rfl 5 rfl ?_
  refine y_callV (c := 20) (ci := 2) (As := [.ref (o.G.ad (2 + k)), .int (nI (0)), .int (nI (n)), .long (a), .int (nI (0)), .int (yb bh)]) (rest := []) (pc' := 37) hB hE (ct_J_placeIn o.l o.G (yq (yj S od false) c1) od false c1 (yJ_yq (yj_J S false ho) c1) k hk6 0 n (by omega) hn (by have hz := zo_seg.mp (show zo (zq od false) (zs (ye S k) 0 (n - 0)) from hs); exact hz) a (nI 0) bh 11 (by omega)) mm_J_placeIn q_579 q_372 q_373 (by decide) rfl rfl dc_B_find_34 rfl (by decide) rfl rfl (Nat.le_of_ble_eq_true rfl) (fun v S' hpost => ?_)
  obtain ⟨p, c2, rfl, rfl, m1, m2, m3, m4, m5⟩ := hpost
  rw [yq_yq]
  show yW o (yq (yj S od false) c2) 37 [(6, .ref (o.G.ad (2 + k))), (0, .ref (o.G.ad (0))), (1, .int (nI (k))), (2, .int (nI (od))), (3, .long (a)), (5, .int (yb bh))] [.int (nI (p))]
  exact y_iret hB hE dc_B_find_37 ⟨p, rfl, (yU_yj S od false).tr (yU_yq _ _), m2, fun j hj => m3 j (Nat.zero_le _) hj, m4⟩
