/-! REFERENCE: in order, inversions -/
theorem dc_M_falls_0 : decode mb_M_falls 0 = .ok (.iload_n 2, 1) := by decide +kernel
theorem dc_M_falls_1 : decode mb_M_falls 1 = .ok (.aload_n 0, 1) := by decide +kernel
theorem dc_M_falls_2 : decode mb_M_falls 2 = .ok (.getfield 7, 3) := by decide +kernel
theorem dc_M_falls_5 : decode mb_M_falls 5 = .ok (.sipush 1024, 3) := by decide +kernel
theorem dc_M_falls_8 : decode mb_M_falls 8 = .ok (.iload_n 1, 1) := by decide +kernel
theorem dc_M_falls_9 : decode mb_M_falls 9 = .ok (.imul, 1) := by decide +kernel
theorem dc_M_falls_10 : decode mb_M_falls 10 = .ok (.iload_n 3, 1) := by decide +kernel
theorem dc_M_falls_11 : decode mb_M_falls 11 = .ok (.iadd, 1) := by decide +kernel
theorem dc_M_falls_12 : decode mb_M_falls 12 = .ok (.laload, 1) := by decide +kernel
theorem dc_M_falls_13 : decode mb_M_falls 13 = .ok (.aload_n 0, 1) := by decide +kernel
theorem dc_M_falls_14 : decode mb_M_falls 14 = .ok (.getfield 7, 3) := by decide +kernel
theorem dc_M_falls_17 : decode mb_M_falls 17 = .ok (.sipush 1024, 3) := by decide +kernel
theorem dc_M_falls_20 : decode mb_M_falls 20 = .ok (.iload_n 1, 1) := by decide +kernel
theorem dc_M_falls_21 : decode mb_M_falls 21 = .ok (.imul, 1) := by decide +kernel
theorem dc_M_falls_22 : decode mb_M_falls 22 = .ok (.iload_n 3, 1) := by decide +kernel
theorem dc_M_falls_23 : decode mb_M_falls 23 = .ok (.iadd, 1) := by decide +kernel
theorem dc_M_falls_24 : decode mb_M_falls 24 = .ok (.iconst 1, 1) := by decide +kernel
theorem dc_M_falls_25 : decode mb_M_falls 25 = .ok (.isub, 1) := by decide +kernel
theorem dc_M_falls_26 : decode mb_M_falls 26 = .ok (.laload, 1) := by decide +kernel
theorem dc_M_falls_27 : decode mb_M_falls 27 = .ok (.invokestatic 52, 3) := by decide +kernel
theorem dc_M_falls_30 : decode mb_M_falls 30 = .ok (.ireturn, 1) := by decide +kernel
theorem dc_M_inOrder_0 : decode mb_M_inOrder 0 = .ok (.iconst 1, 1) := by decide +kernel
theorem dc_M_inOrder_1 : decode mb_M_inOrder 1 = .ok (.istore_n 3, 1) := by decide +kernel
theorem dc_M_inOrder_2 : decode mb_M_inOrder 2 = .ok (.iconst 1, 1) := by decide +kernel
theorem dc_M_inOrder_3 : decode mb_M_inOrder 3 = .ok (.istore 4, 2) := by decide +kernel
theorem dc_M_inOrder_5 : decode mb_M_inOrder 5 = .ok (.iload 4, 2) := by decide +kernel
theorem dc_M_inOrder_7 : decode mb_M_inOrder 7 = .ok (.aload_n 0, 1) := by decide +kernel
theorem dc_M_inOrder_8 : decode mb_M_inOrder 8 = .ok (.getfield 17, 3) := by decide +kernel
theorem dc_M_inOrder_11 : decode mb_M_inOrder 11 = .ok (.iload_n 1, 1) := by decide +kernel
theorem dc_M_inOrder_12 : decode mb_M_inOrder 12 = .ok (.iaload, 1) := by decide +kernel
theorem dc_M_inOrder_13 : decode mb_M_inOrder 13 = .ok (.if_icmp .ge 54, 3) := by decide +kernel
theorem dc_M_inOrder_16 : decode mb_M_inOrder 16 = .ok (.iload_n 3, 1) := by decide +kernel
theorem dc_M_inOrder_17 : decode mb_M_inOrder 17 = .ok (.ifCond .eq 42, 3) := by decide +kernel
theorem dc_M_inOrder_20 : decode mb_M_inOrder 20 = .ok (.iload_n 2, 1) := by decide +kernel
theorem dc_M_inOrder_21 : decode mb_M_inOrder 21 = .ok (.aload_n 0, 1) := by decide +kernel
theorem dc_M_inOrder_22 : decode mb_M_inOrder 22 = .ok (.getfield 7, 3) := by decide +kernel
theorem dc_M_inOrder_25 : decode mb_M_inOrder 25 = .ok (.sipush 1024, 3) := by decide +kernel
theorem dc_M_inOrder_28 : decode mb_M_inOrder 28 = .ok (.iload_n 1, 1) := by decide +kernel
theorem dc_M_inOrder_29 : decode mb_M_inOrder 29 = .ok (.imul, 1) := by decide +kernel
theorem dc_M_inOrder_30 : decode mb_M_inOrder 30 = .ok (.iload 4, 2) := by decide +kernel
theorem dc_M_inOrder_32 : decode mb_M_inOrder 32 = .ok (.iadd, 1) := by decide +kernel
theorem dc_M_inOrder_33 : decode mb_M_inOrder 33 = .ok (.laload, 1) := by decide +kernel
theorem dc_M_inOrder_34 : decode mb_M_inOrder 34 = .ok (.aload_n 0, 1) := by decide +kernel
theorem dc_M_inOrder_35 : decode mb_M_inOrder 35 = .ok (.getfield 7, 3) := by decide +kernel
theorem dc_M_inOrder_38 : decode mb_M_inOrder 38 = .ok (.sipush 1024, 3) := by decide +kernel
theorem dc_M_inOrder_41 : decode mb_M_inOrder 41 = .ok (.iload_n 1, 1) := by decide +kernel
theorem dc_M_inOrder_42 : decode mb_M_inOrder 42 = .ok (.imul, 1) := by decide +kernel
theorem dc_M_inOrder_43 : decode mb_M_inOrder 43 = .ok (.iload 4, 2) := by decide +kernel
theorem dc_M_inOrder_45 : decode mb_M_inOrder 45 = .ok (.iadd, 1) := by decide +kernel
theorem dc_M_inOrder_46 : decode mb_M_inOrder 46 = .ok (.iconst 1, 1) := by decide +kernel
theorem dc_M_inOrder_47 : decode mb_M_inOrder 47 = .ok (.isub, 1) := by decide +kernel
theorem dc_M_inOrder_48 : decode mb_M_inOrder 48 = .ok (.laload, 1) := by decide +kernel
theorem dc_M_inOrder_49 : decode mb_M_inOrder 49 = .ok (.invokestatic 52, 3) := by decide +kernel
theorem dc_M_inOrder_52 : decode mb_M_inOrder 52 = .ok (.ifCond .ne 7, 3) := by decide +kernel
theorem dc_M_inOrder_55 : decode mb_M_inOrder 55 = .ok (.iconst 1, 1) := by decide +kernel
theorem dc_M_inOrder_56 : decode mb_M_inOrder 56 = .ok (.goto 4, 3) := by decide +kernel
theorem dc_M_inOrder_59 : decode mb_M_inOrder 59 = .ok (.iconst 0, 1) := by decide +kernel
theorem dc_M_inOrder_60 : decode mb_M_inOrder 60 = .ok (.istore_n 3, 1) := by decide +kernel
theorem dc_M_inOrder_61 : decode mb_M_inOrder 61 = .ok (.iinc 4 1, 3) := by decide +kernel
theorem dc_M_inOrder_64 : decode mb_M_inOrder 64 = .ok (.goto (-59), 3) := by decide +kernel
theorem dc_M_inOrder_67 : decode mb_M_inOrder 67 = .ok (.iload_n 3, 1) := by decide +kernel
theorem dc_M_inOrder_68 : decode mb_M_inOrder 68 = .ok (.ireturn, 1) := by decide +kernel
theorem dc_M_sorted_0 : decode mb_M_sorted 0 = .ok (.aload_n 0, 1) := by decide +kernel
theorem dc_M_sorted_1 : decode mb_M_sorted 1 = .ok (.iload_n 1, 1) := by decide +kernel
theorem dc_M_sorted_2 : decode mb_M_sorted 2 = .ok (.invokevirtual 56, 3) := by decide +kernel
theorem dc_M_sorted_5 : decode mb_M_sorted 5 = .ok (.ifCond .ne 24, 3) := by decide +kernel
theorem dc_M_sorted_8 : decode mb_M_sorted 8 = .ok (.aload_n 0, 1) := by decide +kernel
theorem dc_M_sorted_9 : decode mb_M_sorted 9 = .ok (.iload_n 2, 1) := by decide +kernel
theorem dc_M_sorted_10 : decode mb_M_sorted 10 = .ok (.invokevirtual 81, 3) := by decide +kernel
theorem dc_M_sorted_13 : decode mb_M_sorted 13 = .ok (.ifCond .ne 16, 3) := by decide +kernel
theorem dc_M_sorted_16 : decode mb_M_sorted 16 = .ok (.aload_n 0, 1) := by decide +kernel
theorem dc_M_sorted_17 : decode mb_M_sorted 17 = .ok (.iload_n 1, 1) := by decide +kernel
theorem dc_M_sorted_18 : decode mb_M_sorted 18 = .ok (.iload_n 2, 1) := by decide +kernel
theorem dc_M_sorted_19 : decode mb_M_sorted 19 = .ok (.invokevirtual 95, 3) := by decide +kernel
theorem dc_M_sorted_22 : decode mb_M_sorted 22 = .ok (.ifCond .eq 7, 3) := by decide +kernel
theorem dc_M_sorted_25 : decode mb_M_sorted 25 = .ok (.iconst 1, 1) := by decide +kernel
theorem dc_M_sorted_26 : decode mb_M_sorted 26 = .ok (.goto 4, 3) := by decide +kernel
theorem dc_M_sorted_29 : decode mb_M_sorted 29 = .ok (.iconst 0, 1) := by decide +kernel
theorem dc_M_sorted_30 : decode mb_M_sorted 30 = .ok (.ireturn, 1) := by decide +kernel
theorem dc_M_inversions_0 : decode mb_M_inversions 0 = .ok (.aload_n 0, 1) := by decide +kernel
theorem dc_M_inversions_1 : decode mb_M_inversions 1 = .ok (.iload_n 1, 1) := by decide +kernel
theorem dc_M_inversions_2 : decode mb_M_inversions 2 = .ok (.invokevirtual 56, 3) := by decide +kernel
theorem dc_M_inversions_5 : decode mb_M_inversions 5 = .ok (.ifCond .ne 11, 3) := by decide +kernel
theorem dc_M_inversions_8 : decode mb_M_inversions 8 = .ok (.aload_n 0, 1) := by decide +kernel
theorem dc_M_inversions_9 : decode mb_M_inversions 9 = .ok (.iload_n 2, 1) := by decide +kernel
theorem dc_M_inversions_10 : decode mb_M_inversions 10 = .ok (.invokevirtual 81, 3) := by decide +kernel
theorem dc_M_inversions_13 : decode mb_M_inversions 13 = .ok (.ifCond .eq 5, 3) := by decide +kernel
theorem dc_M_inversions_16 : decode mb_M_inversions 16 = .ok (.iconst 0, 1) := by decide +kernel
theorem dc_M_inversions_17 : decode mb_M_inversions 17 = .ok (.ireturn, 1) := by decide +kernel
theorem dc_M_inversions_18 : decode mb_M_inversions 18 = .ok (.iconst 0, 1) := by decide +kernel
theorem dc_M_inversions_19 : decode mb_M_inversions 19 = .ok (.istore_n 3, 1) := by decide +kernel
theorem dc_M_inversions_20 : decode mb_M_inversions 20 = .ok (.iconst 0, 1) := by decide +kernel
theorem dc_M_inversions_21 : decode mb_M_inversions 21 = .ok (.istore 4, 2) := by decide +kernel
theorem dc_M_inversions_23 : decode mb_M_inversions 23 = .ok (.iload 4, 2) := by decide +kernel
theorem dc_M_inversions_25 : decode mb_M_inversions 25 = .ok (.aload_n 0, 1) := by decide +kernel
theorem dc_M_inversions_26 : decode mb_M_inversions 26 = .ok (.getfield 17, 3) := by decide +kernel
theorem dc_M_inversions_29 : decode mb_M_inversions 29 = .ok (.iload_n 1, 1) := by decide +kernel
theorem dc_M_inversions_30 : decode mb_M_inversions 30 = .ok (.iaload, 1) := by decide +kernel
theorem dc_M_inversions_31 : decode mb_M_inversions 31 = .ok (.if_icmp .ge 73, 3) := by decide +kernel
theorem dc_M_inversions_34 : decode mb_M_inversions 34 = .ok (.iload 4, 2) := by decide +kernel
theorem dc_M_inversions_36 : decode mb_M_inversions 36 = .ok (.iconst 1, 1) := by decide +kernel
theorem dc_M_inversions_37 : decode mb_M_inversions 37 = .ok (.iadd, 1) := by decide +kernel
theorem dc_M_inversions_38 : decode mb_M_inversions 38 = .ok (.istore 5, 2) := by decide +kernel
theorem dc_M_inversions_40 : decode mb_M_inversions 40 = .ok (.iload 5, 2) := by decide +kernel
theorem dc_M_inversions_42 : decode mb_M_inversions 42 = .ok (.aload_n 0, 1) := by decide +kernel
theorem dc_M_inversions_43 : decode mb_M_inversions 43 = .ok (.getfield 17, 3) := by decide +kernel
theorem dc_M_inversions_46 : decode mb_M_inversions 46 = .ok (.iload_n 1, 1) := by decide +kernel
theorem dc_M_inversions_47 : decode mb_M_inversions 47 = .ok (.iaload, 1) := by decide +kernel
theorem dc_M_inversions_48 : decode mb_M_inversions 48 = .ok (.if_icmp .ge 50, 3) := by decide +kernel
theorem dc_M_inversions_51 : decode mb_M_inversions 51 = .ok (.iload_n 2, 1) := by decide +kernel
theorem dc_M_inversions_52 : decode mb_M_inversions 52 = .ok (.aload_n 0, 1) := by decide +kernel
theorem dc_M_inversions_53 : decode mb_M_inversions 53 = .ok (.getfield 7, 3) := by decide +kernel
theorem dc_M_inversions_56 : decode mb_M_inversions 56 = .ok (.sipush 1024, 3) := by decide +kernel
theorem dc_M_inversions_59 : decode mb_M_inversions 59 = .ok (.iload_n 1, 1) := by decide +kernel
theorem dc_M_inversions_60 : decode mb_M_inversions 60 = .ok (.imul, 1) := by decide +kernel
theorem dc_M_inversions_61 : decode mb_M_inversions 61 = .ok (.iload 5, 2) := by decide +kernel
theorem dc_M_inversions_63 : decode mb_M_inversions 63 = .ok (.iadd, 1) := by decide +kernel
theorem dc_M_inversions_64 : decode mb_M_inversions 64 = .ok (.laload, 1) := by decide +kernel
theorem dc_M_inversions_65 : decode mb_M_inversions 65 = .ok (.aload_n 0, 1) := by decide +kernel
theorem dc_M_inversions_66 : decode mb_M_inversions 66 = .ok (.getfield 7, 3) := by decide +kernel
theorem dc_M_inversions_69 : decode mb_M_inversions 69 = .ok (.sipush 1024, 3) := by decide +kernel
theorem dc_M_inversions_72 : decode mb_M_inversions 72 = .ok (.iload_n 1, 1) := by decide +kernel
theorem dc_M_inversions_73 : decode mb_M_inversions 73 = .ok (.imul, 1) := by decide +kernel
theorem dc_M_inversions_74 : decode mb_M_inversions 74 = .ok (.iload 4, 2) := by decide +kernel
theorem dc_M_inversions_76 : decode mb_M_inversions 76 = .ok (.iadd, 1) := by decide +kernel
theorem dc_M_inversions_77 : decode mb_M_inversions 77 = .ok (.laload, 1) := by decide +kernel
theorem dc_M_inversions_78 : decode mb_M_inversions 78 = .ok (.invokestatic 52, 3) := by decide +kernel
theorem dc_M_inversions_81 : decode mb_M_inversions 81 = .ok (.ifCond .eq 9, 3) := by decide +kernel
theorem dc_M_inversions_84 : decode mb_M_inversions 84 = .ok (.iload_n 3, 1) := by decide +kernel
theorem dc_M_inversions_85 : decode mb_M_inversions 85 = .ok (.iconst 1, 1) := by decide +kernel
theorem dc_M_inversions_86 : decode mb_M_inversions 86 = .ok (.iadd, 1) := by decide +kernel
theorem dc_M_inversions_87 : decode mb_M_inversions 87 = .ok (.goto 4, 3) := by decide +kernel
theorem dc_M_inversions_90 : decode mb_M_inversions 90 = .ok (.iload_n 3, 1) := by decide +kernel
theorem dc_M_inversions_91 : decode mb_M_inversions 91 = .ok (.istore_n 3, 1) := by decide +kernel
theorem dc_M_inversions_92 : decode mb_M_inversions 92 = .ok (.iinc 5 1, 3) := by decide +kernel
theorem dc_M_inversions_95 : decode mb_M_inversions 95 = .ok (.goto (-55), 3) := by decide +kernel
theorem dc_M_inversions_98 : decode mb_M_inversions 98 = .ok (.iinc 4 1, 3) := by decide +kernel
theorem dc_M_inversions_101 : decode mb_M_inversions 101 = .ok (.goto (-78), 3) := by decide +kernel
theorem dc_M_inversions_104 : decode mb_M_inversions 104 = .ok (.iload_n 3, 1) := by decide +kernel
theorem dc_M_inversions_105 : decode mb_M_inversions 105 = .ok (.ireturn, 1) := by decide +kernel
theorem zk_cons {α : Type} (r : α → Int) (x y : α) (t : List α) : zk r x (y :: t) = (if r y < r x then 1 else 0) + zk r x t := by
  unfold zk
  by_cases h : r y < r x
  · rw [if_pos h, List.filter_cons_of_pos (by simp [h]), List.length_cons, Nat.add_comm]
  · rw [if_neg h, List.filter_cons_of_neg (by simp [h]), Nat.zero_add]
theorem zj_at {α : Type} (r : α → Int) (f : Nat → α) {i n : Nat} (h : i < n) : zj r (zs f i (n - i)) = zk r (f i) (zs f (i + 1) (n - (i + 1))) + zj r (zs f (i + 1) (n - (i + 1))) := by
  rw [show n - i = (n - (i + 1)) + 1 by omega, zs_cons, zj_cons]
theorem zk_at {α : Type} (r : α → Int) (f : Nat → α) (x : α) {j n : Nat} (h : j < n) : zk r x (zs f j (n - j)) = (if r (f j) < r x then 1 else 0) + zk r x (zs f (j + 1) (n - (j + 1))) := by
  rw [show n - j = (n - (j + 1)) + 1 by omega, zs_cons, zk_cons]
set_option maxHeartbeats 4000000 in
set_option maxRecDepth 100000 in
theorem ct_M_falls (l : Launch) (g : YG) (S : YS) (k : Nat) (hk : k < 4) (od : Nat) (ho : od < 8) (i : Nat) (hi : 1 ≤ i) (hi2 : i < 1024) : yC l mn_M_falls mb_M_falls 4 (some .boolean) 2 g [.ref (g.ad (24)), .int (nI (k)), .int (nI (od)), .int (nI (i))] S (fun v S' => v = some (.int (yb (decide (zq od false ((ze4 S k) i) < zq od false ((ze4 S k) (i - 1)))))) ∧ S' = S) := by
  refine yC_of (by decide) (Nat.le_of_ble_eq_true rfl) ?_
  intro o hl hg hB0 hE
  subst hl
  subst hg
  have hB : yB o mb_M_falls "OrderBenchModel" := hB0
  have hm := hE.1
  show yW o (S) 0 [(0, .ref (o.G.ad (24))), (1, .int (nI (k))), (2, .int (nI (od))), (3, .int (nI (i)))] []
  refine y_iload_n (pc' := 1) hB dc_M_falls_0 rfl rfl 2 rfl ?_
  refine y_aload_n (pc' := 2) hB dc_M_falls_1 rfl rfl 0 rfl ?_
  refine f_M_keys (pc' := 5) hB dc_M_falls_2 rfl q_640 ?_
  refine y_sipush (v := nI 1024) (pc' := 8) hB dc_M_falls_5 rfl (by decide) ?_
  refine y_iload_n (pc' := 9) hB dc_M_falls_8 rfl rfl 1 rfl ?_
  refine n_imul (x := 1024) (y := k) (pc' := 10) hB dc_M_falls_9 rfl ?_
  refine y_iload_n (pc' := 11) hB dc_M_falls_10 rfl rfl 3 rfl ?_
  refine n_iadd (x := 1024 * k) (y := i) (pc' := 12) hB dc_M_falls_11 rfl ?_
  refine y_lald (c := 25) (n := 4096) (j := (1024 * k) + i) (pc' := 13) hB dc_M_falls_12 rfl (by decide) rfl (by omega) (by decide) ?_
  refine y_aload_n (pc' := 14) hB dc_M_falls_13 rfl rfl 0 rfl ?_
  refine f_M_keys (pc' := 17) hB dc_M_falls_14 rfl q_640 ?_
  refine y_sipush (v := nI 1024) (pc' := 20) hB dc_M_falls_17 rfl (by decide) ?_
  refine y_iload_n (pc' := 21) hB dc_M_falls_20 rfl rfl 1 rfl ?_
  refine n_imul (x := 1024) (y := k) (pc' := 22) hB dc_M_falls_21 rfl ?_
  refine y_iload_n (pc' := 23) hB dc_M_falls_22 rfl rfl 3 rfl ?_
  refine n_iadd (x := 1024 * k) (y := i) (pc' := 24) hB dc_M_falls_23 rfl ?_
  refine y_iconst (v := nI 1) (pc' := 25) hB dc_M_falls_24 rfl rfl ?_
  refine n_isub (x := (1024 * k) + i) (y := 1) (pc' := 26) hB dc_M_falls_25 rfl (by omega) ?_
  refine y_lald (c := 25) (n := 4096) (j := ((1024 * k) + i) - 1) (pc' := 27) hB dc_M_falls_26 rfl (by decide) rfl (by omega) (by decide) ?_
  refine y_topl (y := ((ze4 S k) (i - 1)).1) (by show gL S 25 _ = gL S 25 _; congr 1; omega) ?_
  refine y_callS (As := [.int (nI (od)), .long (gL (S) (25) ((1024 * k) + i)), .long (((ze4 S k) (i - 1)).1)]) (rest := []) (pc' := 30) hB hE (ct_M_isBefore o.l o.G S od ho ((ze4 S k) i).1 ((ze4 S k) (i - 1)).1) mm_M_isBefore q_740 q_741 dc_M_falls_27 rfl (by decide) rfl rfl (Nat.le_of_ble_eq_true rfl) (fun v S' hpost => ?_)
  obtain ⟨rfl, hSS⟩ := hpost
  rw [hSS]
  clear hSS S'
  show yW o (S) 30 [(0, .ref (o.G.ad (24))), (1, .int (nI (k))), (2, .int (nI (od))), (3, .int (nI (i)))] [.int (yb (decide (zr od ((ze4 S k) i).1 < zr od ((ze4 S k) (i - 1)).1)))]
  exact y_zret hB hE dc_M_falls_30 (yb_or _) ⟨rfl, rfl⟩
set_option maxHeartbeats 4000000 in
set_option maxRecDepth 100000 in
theorem ct_M_inOrder (l : Launch) (g : YG) (S : YS) (k n : Nat) (hk : k < 4) (hn : n ≤ 1024) (hc : gI S 27 k = nI n) (od : Nat) (ho : od < 8) : yC l mn_M_inOrder mb_M_inOrder 5 (some .boolean) 2 g [.ref (g.ad (24)), .int (nI (k)), .int (nI (od))] S (fun v S' => ∃ bo : Bool, v = some (.int (yb bo)) ∧ S' = S ∧ (bo = true ↔ zo (zq od false) (zs (ze4 S k) 0 n))) := by
  refine yC_of (by decide) (Nat.le_of_ble_eq_true rfl) ?_
  intro o hl hg hB0 hE
  subst hl
  subst hg
  have hB : yB o mb_M_inOrder "OrderBenchModel" := hB0
  have hm := hE.1
  show yW o (S) 0 [(0, .ref (o.G.ad (24))), (1, .int (nI (k))), (2, .int (nI (od)))] []
  refine y_iconst (v := nI 1) (pc' := 1) hB dc_M_inOrder_0 rfl rfl ?_
  refine y_istore_n (pc' := 2) (lv' := [(3, .int (nI (1))), (0, .ref (o.G.ad (24))), (1, .int (nI (k))), (2, .int (nI (od)))]) hB hm dc_M_inOrder_1 rfl rfl (by decide) rfl ?_
  refine y_iconst (v := nI 1) (pc' := 3) hB dc_M_inOrder_2 rfl rfl ?_
  refine y_istore (pc' := 5) (lv' := [(4, .int (nI (1))), (3, .int (nI (1))), (0, .ref (o.G.ad (24))), (1, .int (nI (k))), (2, .int (nI (od)))]) hB hm dc_M_inOrder_3 rfl (by decide) rfl ?_
  have loop : ∀ (d : Nat) (i : Nat) (bo : Bool), 1025 - i < d → (bo = true ↔ ∀ j, 0 < j → j < i → j < n → zq od false ((ze4 S k) (j - 1)) ≤ zq od false ((ze4 S k) j)) → 1 ≤ i ∧ i ≤ 1025 → yW o (S) 5 [(4, .int (nI (i))), (3, .int (yb bo)), (0, .ref (o.G.ad (24))), (1, .int (nI (k))), (2, .int (nI (od)))] [] := by
    intro d
    induction d with
    | zero => intro i bo hd; omega
    | succ d ih =>
      intro i bo hd h1 h2
      refine y_iload (pc' := 7) hB dc_M_inOrder_5 rfl 0 rfl ?_
      refine y_aload_n (pc' := 8) hB dc_M_inOrder_7 rfl rfl 2 rfl ?_
      refine f_M_sizes (pc' := 11) hB dc_M_inOrder_8 rfl q_642 ?_
      refine y_iload_n (pc' := 12) hB dc_M_inOrder_11 rfl rfl 3 rfl ?_
      refine y_iald (c := 27) (n := 4) (j := k) (pc' := 13) hB dc_M_inOrder_12 rfl (by decide) rfl (by omega) (by decide) ?_
      refine y_topi (y := nI (n)) (hc) ?_
      refine n_icmp_ge (pc' := 16) (tg := 67) hB dc_M_inOrder_13 rfl rfl (by omega) (by omega) (fun b1 => ?_) (fun b1 => ?_)
      · refine y_iload_n (pc' := 68) hB dc_M_inOrder_67 rfl rfl 1 rfl ?_
        refine y_zret hB hE dc_M_inOrder_68 (yb_or bo) ⟨bo, rfl, rfl, h1.trans ⟨fun q => ?_, fun q j q1 q2 q3 => ?_⟩⟩
        · have := zrise (r := zq od false) (f := (ze4 S k)) (a := 0) (b := n) (fun j q1 q2 => q j q1 (by omega) q2)
          rwa [Nat.sub_zero] at this
        · have := zo_zs.mp q (j - 1) j (by omega) q3
          rwa [Nat.zero_add, Nat.zero_add] at this
      · have nx : ∀ b2 : Bool, (b2 = true ↔ bo = true ∧ zq od false ((ze4 S k) (i - 1)) ≤ zq od false ((ze4 S k) i)) → yW o S 60 [(4, .int (nI (i))), (3, .int (yb bo)), (0, .ref (o.G.ad (24))), (1, .int (nI (k))), (2, .int (nI (od)))] [.int (yb b2)] := by
          intro b2 q
          refine y_istore_n (pc' := 61) (lv' := [(3, .int (yb b2)), (4, .int (nI (i))), (0, .ref (o.G.ad (24))), (1, .int (nI (k))), (2, .int (nI (od)))]) hB hm dc_M_inOrder_60 rfl rfl (by decide) rfl ?_
          refine n_inc (q := 1) (z := 1) (pc' := 64) (lv' := [(4, .int (nI (i + 1))), (3, .int (yb b2)), (0, .ref (o.G.ad (24))), (1, .int (nI (k))), (2, .int (nI (od)))]) hB hm dc_M_inOrder_61 rfl rfl (by decide) rfl ?_
          refine y_goto (tg := 5) hB dc_M_inOrder_64 rfl ?_
          refine y_sub [0, 1, 2, 3, 4] rfl ?_
          refine ih (i + 1) b2 (by omega) ?_ (by omega)
          rw [q, h1]
          refine ⟨fun z j q1 q2 q3 => ?_, fun z => ⟨fun j q1 q2 q3 => z j q1 (by omega) q3, z i (by omega) (by omega) b1⟩⟩
          by_cases e : j = i
          · rw [e]; exact z.2
          · exact z.1 j q1 (by omega) q3
        refine y_iload_n (pc' := 17) hB dc_M_inOrder_16 rfl rfl 1 rfl ?_
        refine y_if_eq (x := yb bo) (pc' := 20) (tg := 59) hB dc_M_inOrder_17 rfl rfl (fun b2 => ?_) (fun b2 => ?_)
        · refine y_iconst (v := nI 0) (pc' := 60) hB dc_M_inOrder_59 rfl rfl ?_
          exact nx false ⟨fun q => absurd q (by decide), fun q => by rw [yb_0.mp b2] at q; exact absurd q.1 (by decide)⟩
        · refine y_iload_n (pc' := 21) hB dc_M_inOrder_20 rfl rfl 4 rfl ?_
          refine y_aload_n (pc' := 22) hB dc_M_inOrder_21 rfl rfl 2 rfl ?_
          refine f_M_keys (pc' := 25) hB dc_M_inOrder_22 rfl q_640 ?_
          refine y_sipush (v := nI 1024) (pc' := 28) hB dc_M_inOrder_25 rfl (by decide) ?_
          refine y_iload_n (pc' := 29) hB dc_M_inOrder_28 rfl rfl 3 rfl ?_
          refine n_imul (x := 1024) (y := k) (pc' := 30) hB dc_M_inOrder_29 rfl ?_
          refine y_iload (pc' := 32) hB dc_M_inOrder_30 rfl 0 rfl ?_
          refine n_iadd (x := 1024 * k) (y := i) (pc' := 33) hB dc_M_inOrder_32 rfl ?_
          refine y_lald (c := 25) (n := 4096) (j := (1024 * k) + i) (pc' := 34) hB dc_M_inOrder_33 rfl (by decide) rfl (by omega) (by decide) ?_
          refine y_aload_n (pc' := 35) hB dc_M_inOrder_34 rfl rfl 2 rfl ?_
          refine f_M_keys (pc' := 38) hB dc_M_inOrder_35 rfl q_640 ?_
          refine y_sipush (v := nI 1024) (pc' := 41) hB dc_M_inOrder_38 rfl (by decide) ?_
          refine y_iload_n (pc' := 42) hB dc_M_inOrder_41 rfl rfl 3 rfl ?_
          refine n_imul (x := 1024) (y := k) (pc' := 43) hB dc_M_inOrder_42 rfl ?_
          refine y_iload (pc' := 45) hB dc_M_inOrder_43 rfl 0 rfl ?_
          refine n_iadd (x := 1024 * k) (y := i) (pc' := 46) hB dc_M_inOrder_45 rfl ?_
          refine y_iconst (v := nI 1) (pc' := 47) hB dc_M_inOrder_46 rfl rfl ?_
          refine n_isub (x := (1024 * k) + i) (y := 1) (pc' := 48) hB dc_M_inOrder_47 rfl (by omega) ?_
          refine y_lald (c := 25) (n := 4096) (j := ((1024 * k) + i) - 1) (pc' := 49) hB dc_M_inOrder_48 rfl (by decide) rfl (by omega) (by decide) ?_
          refine y_topl (y := ((ze4 S k) (i - 1)).1) (by show gL S 25 _ = gL S 25 _; congr 1; omega) ?_
          refine y_callS (As := [.int (nI (od)), .long (gL (S) (25) ((1024 * k) + i)), .long (((ze4 S k) (i - 1)).1)]) (rest := []) (pc' := 52) hB hE (ct_M_isBefore o.l o.G S od ho ((ze4 S k) i).1 ((ze4 S k) (i - 1)).1) mm_M_isBefore q_740 q_741 dc_M_inOrder_49 rfl (by decide) rfl rfl (Nat.le_of_ble_eq_true rfl) (fun v S' hpost => ?_)
          obtain ⟨rfl, hSS⟩ := hpost
          rw [hSS]
          clear hSS S'
          show yW o (S) 52 [(4, .int (nI (i))), (3, .int (yb bo)), (0, .ref (o.G.ad (24))), (1, .int (nI (k))), (2, .int (nI (od)))] [.int (yb (decide (zr od ((ze4 S k) i).1 < zr od ((ze4 S k) (i - 1)).1)))]
          refine y_if_ne (x := yb (decide (zr od ((ze4 S k) i).1 < zr od ((ze4 S k) (i - 1)).1))) (pc' := 55) (tg := 59) hB dc_M_inOrder_52 rfl rfl (fun b3 => ?_) (fun b3 => ?_)
          · rw [yb_n, decide_eq_true_eq] at b3
            refine y_iconst (v := nI 0) (pc' := 60) hB dc_M_inOrder_59 rfl rfl ?_
            exact nx false ⟨fun q => absurd q (by decide), fun q => absurd (show zr od ((ze4 S k) (i - 1)).1 ≤ zr od ((ze4 S k) i).1 from q.2) (by omega)⟩
          · rw [yb_0, decide_eq_false_iff_not] at b3
            refine y_iconst (v := nI 1) (pc' := 56) hB dc_M_inOrder_55 rfl rfl ?_
            refine y_goto (tg := 60) hB dc_M_inOrder_56 rfl ?_
            exact nx true ⟨fun _ => ⟨yb_n.mp b2, show zr od ((ze4 S k) (i - 1)).1 ≤ zr od ((ze4 S k) i).1 by omega⟩, fun _ => rfl⟩
  exact loop 1026 1 true (by omega) ⟨fun _ j q1 q2 => by omega, fun _ => rfl⟩ (by omega)
set_option maxHeartbeats 4000000 in
set_option maxRecDepth 100000 in
theorem ct_M_sorted (l : Launch) (g : YG) (S : YS) (k n : Nat) (hk : k < 4) (hn : n ≤ 1024) (hc : gI S 27 k = nI n) (od : Nat) (ho : od < 8) : yC l mn_M_sorted mb_M_sorted 3 (some .boolean) 3 g [.ref (g.ad (24)), .int (nI (k)), .int (nI (od))] S (fun v S' => ∃ bo : Bool, v = some (.int (yb bo)) ∧ S' = yx S 0 ∧ (bo = true ↔ zo (zq od false) (zs (ze4 S k) 0 n))) := by
  refine yC_of (by decide) (Nat.le_of_ble_eq_true rfl) ?_
  intro o hl hg hB0 hE
  subst hl
  subst hg
  have hB : yB o mb_M_sorted "OrderBenchModel" := hB0
  have hm := hE.1
  show yW o (S) 0 [(0, .ref (o.G.ad (24))), (1, .int (nI (k))), (2, .int (nI (od)))] []
  refine y_aload_n (pc' := 1) hB dc_M_sorted_0 rfl rfl 0 rfl ?_
  refine y_iload_n (pc' := 2) hB dc_M_sorted_1 rfl rfl 1 rfl ?_
  refine y_callV (c := 24) (ci := 4) (As := [.int (nI (k))]) (rest := []) (pc' := 5) hB hE (ct_M_noRow o.l o.G S (nI k) (zgr_of hk)) mm_M_noRow q_672 q_674 qs_12 (by decide) rfl rfl dc_M_sorted_2 rfl (by decide) rfl rfl (Nat.le_of_ble_eq_true rfl) (fun v S' hpost => ?_)
  obtain ⟨rfl, hSS⟩ := hpost
  rw [hSS]
  clear hSS S'
  show yW o (yx S 0) 5 [(0, .ref (o.G.ad (24))), (1, .int (nI (k))), (2, .int (nI (od)))] [.int (0)]
  refine y_if_ne (x := 0) (pc' := 8) (tg := 29) hB dc_M_sorted_5 rfl rfl (fun c1 => ?_) (fun c1 => ?_)
  · exact absurd rfl c1
  · refine y_aload_n (pc' := 9) hB dc_M_sorted_8 rfl rfl 0 rfl ?_
    refine y_iload_n (pc' := 10) hB dc_M_sorted_9 rfl rfl 2 rfl ?_
    refine y_callV (c := 24) (ci := 4) (As := [.int (nI (od))]) (rest := []) (pc' := 13) hB hE (ct_M_noOrder o.l o.G (yx S 0) (nI od) (zgo_of ho)) mm_M_noOrder q_720 q_722 qs_14 (by decide) rfl rfl dc_M_sorted_10 rfl (by decide) rfl rfl (Nat.le_of_ble_eq_true rfl) (fun v S' hpost => ?_)
    obtain ⟨rfl, hSS⟩ := hpost
    rw [hSS]
    clear hSS S'
    show yW o (yx (yx S 0) 0) 13 [(0, .ref (o.G.ad (24))), (1, .int (nI (k))), (2, .int (nI (od)))] [.int (0)]
    rw [yx_yx]
    refine y_if_ne (x := 0) (pc' := 16) (tg := 29) hB dc_M_sorted_13 rfl rfl (fun c2 => ?_) (fun c2 => ?_)
    · exact absurd rfl c2
    · refine y_aload_n (pc' := 17) hB dc_M_sorted_16 rfl rfl 0 rfl ?_
      refine y_iload_n (pc' := 18) hB dc_M_sorted_17 rfl rfl 1 rfl ?_
      refine y_iload_n (pc' := 19) hB dc_M_sorted_18 rfl rfl 2 rfl ?_
      refine y_callV (c := 24) (ci := 4) (As := [.int (nI (k)), .int (nI (od))]) (rest := []) (pc' := 22) hB hE (ct_M_inOrder o.l o.G (yx S 0) k n hk hn hc od ho) mm_M_inOrder q_769 q_771 qs_20 (by decide) rfl rfl dc_M_sorted_19 rfl (by decide) rfl rfl (Nat.le_of_ble_eq_true rfl) (fun v S' hpost => ?_)
      obtain ⟨bo, rfl, rfl, m1⟩ := hpost
      show yW o (yx S 0) 22 [(0, .ref (o.G.ad (24))), (1, .int (nI (k))), (2, .int (nI (od)))] [.int (yb bo)]
      refine y_if_eq (x := yb bo) (pc' := 25) (tg := 29) hB dc_M_sorted_22 rfl rfl (fun c3 => ?_) (fun c3 => ?_)
      · refine y_iconst (v := nI 0) (pc' := 30) hB dc_M_sorted_29 rfl rfl ?_
        exact y_zret hB hE dc_M_sorted_30 (Or.inl rfl) ⟨bo, by rw [yb_0.mp c3]; rfl, rfl, m1⟩
      · refine y_iconst (v := nI 1) (pc' := 26) hB dc_M_sorted_25 rfl rfl ?_
        refine y_goto (tg := 30) hB dc_M_sorted_26 rfl ?_
        exact y_zret hB hE dc_M_sorted_30 (Or.inr rfl) ⟨bo, by rw [yb_n.mp c3]; rfl, rfl, m1⟩
set_option maxHeartbeats 4000000 in
set_option maxRecDepth 100000 in
theorem ct_M_inversions (l : Launch) (g : YG) (S : YS) (k n : Nat) (hk : k < 4) (hn : n ≤ 1024) (hc : gI S 27 k = nI n) (od : Nat) (ho : od < 8) : yC l mn_M_inversions mb_M_inversions 6 (some .int) 3 g [.ref (g.ad (24)), .int (nI (k)), .int (nI (od))] S (fun v S' => v = some (.int (nI (zj (zq od false) (zs (ze4 S k) 0 n)))) ∧ S' = yx S 0) := by
  refine yC_of (by decide) (Nat.le_of_ble_eq_true rfl) ?_
  intro o hl hg hB0 hE
  subst hl
  subst hg
  have hB : yB o mb_M_inversions "OrderBenchModel" := hB0
  have hm := hE.1
  show yW o (S) 0 [(0, .ref (o.G.ad (24))), (1, .int (nI (k))), (2, .int (nI (od)))] []
  refine y_aload_n (pc' := 1) hB dc_M_inversions_0 rfl rfl 0 rfl ?_
  refine y_iload_n (pc' := 2) hB dc_M_inversions_1 rfl rfl 1 rfl ?_
  refine y_callV (c := 24) (ci := 4) (As := [.int (nI (k))]) (rest := []) (pc' := 5) hB hE (ct_M_noRow o.l o.G S (nI k) (zgr_of hk)) mm_M_noRow q_672 q_674 qs_12 (by decide) rfl rfl dc_M_inversions_2 rfl (by decide) rfl rfl (Nat.le_of_ble_eq_true rfl) (fun v S' hpost => ?_)
  obtain ⟨rfl, hSS⟩ := hpost
  rw [hSS]
  clear hSS S'
  show yW o (yx S 0) 5 [(0, .ref (o.G.ad (24))), (1, .int (nI (k))), (2, .int (nI (od)))] [.int (0)]
  refine y_if_ne (x := 0) (pc' := 8) (tg := 16) hB dc_M_inversions_5 rfl rfl (fun c1 => ?_) (fun c1 => ?_)
  · exact absurd rfl c1
  · refine y_aload_n (pc' := 9) hB dc_M_inversions_8 rfl rfl 0 rfl ?_
    refine y_iload_n (pc' := 10) hB dc_M_inversions_9 rfl rfl 2 rfl ?_
    refine y_callV (c := 24) (ci := 4) (As := [.int (nI (od))]) (rest := []) (pc' := 13) hB hE (ct_M_noOrder o.l o.G (yx S 0) (nI od) (zgo_of ho)) mm_M_noOrder q_720 q_722 qs_14 (by decide) rfl rfl dc_M_inversions_10 rfl (by decide) rfl rfl (Nat.le_of_ble_eq_true rfl) (fun v S' hpost => ?_)
    obtain ⟨rfl, hSS⟩ := hpost
    rw [hSS]
    clear hSS S'
    show yW o (yx (yx S 0) 0) 13 [(0, .ref (o.G.ad (24))), (1, .int (nI (k))), (2, .int (nI (od)))] [.int (0)]
    rw [yx_yx]
    refine y_if_eq (x := 0) (pc' := 16) (tg := 18) hB dc_M_inversions_13 rfl rfl (fun c2 => ?_) (fun c2 => ?_)
    · refine y_iconst (v := nI 0) (pc' := 19) hB dc_M_inversions_18 rfl rfl ?_
      refine y_istore_n (pc' := 20) (lv' := [(3, .int (nI (0))), (0, .ref (o.G.ad (24))), (1, .int (nI (k))), (2, .int (nI (od)))]) hB hm dc_M_inversions_19 rfl rfl (by decide) rfl ?_
      refine y_iconst (v := nI 0) (pc' := 21) hB dc_M_inversions_20 rfl rfl ?_
      refine y_istore (pc' := 23) (lv' := [(4, .int (nI (0))), (3, .int (nI (0))), (0, .ref (o.G.ad (24))), (1, .int (nI (k))), (2, .int (nI (od)))]) hB hm dc_M_inversions_21 rfl (by decide) rfl ?_
      have outer : ∀ (d : Nat) (i mn : Nat), n - i < d → i ≤ n → mn + zj (zq od false) (zs (ze4 S k) i (n - i)) = zj (zq od false) (zs (ze4 S k) 0 n) → yW o (yx S 0) 23 [(4, .int (nI (i))), (3, .int (nI (mn))), (0, .ref (o.G.ad (24))), (1, .int (nI (k))), (2, .int (nI (od)))] [] := by
        intro d
        induction d with
        | zero => intro i mn hd; omega
        | succ d ih =>
          intro i mn hd h1 h2
          refine y_iload (pc' := 25) hB dc_M_inversions_23 rfl 0 rfl ?_
          refine y_aload_n (pc' := 26) hB dc_M_inversions_25 rfl rfl 2 rfl ?_
          refine f_M_sizes (pc' := 29) hB dc_M_inversions_26 rfl q_642 ?_
          refine y_iload_n (pc' := 30) hB dc_M_inversions_29 rfl rfl 3 rfl ?_
          refine y_iald (c := 27) (n := 4) (j := k) (pc' := 31) hB dc_M_inversions_30 rfl (by decide) rfl (by omega) (by decide) ?_
          refine y_topi (y := nI (n)) (hc) ?_
          refine n_icmp_ge (pc' := 34) (tg := 104) hB dc_M_inversions_31 rfl rfl (by omega) (by omega) (fun b1 => ?_) (fun b1 => ?_)
          · refine y_iload_n (pc' := 105) hB dc_M_inversions_104 rfl rfl 1 rfl ?_
            rw [show n - i = 0 by omega, zs_zero] at h2
            exact y_iret hB hE dc_M_inversions_105 ⟨by rw [← h2]; rfl, rfl⟩
          · rw [zj_at _ _ b1] at h2
            refine y_iload (pc' := 36) hB dc_M_inversions_34 rfl 0 rfl ?_
            refine y_iconst (v := nI 1) (pc' := 37) hB dc_M_inversions_36 rfl rfl ?_
            refine n_iadd (x := i) (y := 1) (pc' := 38) hB dc_M_inversions_37 rfl ?_
            refine y_istore (pc' := 40) (lv' := [(5, .int (nI (i + 1))), (4, .int (nI (i))), (3, .int (nI (mn))), (0, .ref (o.G.ad (24))), (1, .int (nI (k))), (2, .int (nI (od)))]) hB hm dc_M_inversions_38 rfl (by decide) rfl ?_
            have inner : ∀ (d2 : Nat) (j m2 : Nat), n - j < d2 → i < j ∧ j ≤ n → m2 + zk (zq od false) ((ze4 S k) i) (zs (ze4 S k) j (n - j)) + zj (zq od false) (zs (ze4 S k) (i + 1) (n - (i + 1))) = zj (zq od false) (zs (ze4 S k) 0 n) → yW o (yx S 0) 40 [(5, .int (nI (j))), (4, .int (nI (i))), (3, .int (nI (m2))), (0, .ref (o.G.ad (24))), (1, .int (nI (k))), (2, .int (nI (od)))] [] := by
              intro d2
              induction d2 with
              | zero => intro j m2 hd2; omega
              | succ d2 ih2 =>
                intro j m2 hd2 k1 k2
                refine y_iload (pc' := 42) hB dc_M_inversions_40 rfl 0 rfl ?_
                refine y_aload_n (pc' := 43) hB dc_M_inversions_42 rfl rfl 3 rfl ?_
                refine f_M_sizes (pc' := 46) hB dc_M_inversions_43 rfl q_642 ?_
                refine y_iload_n (pc' := 47) hB dc_M_inversions_46 rfl rfl 4 rfl ?_
                refine y_iald (c := 27) (n := 4) (j := k) (pc' := 48) hB dc_M_inversions_47 rfl (by decide) rfl (by omega) (by decide) ?_
                refine y_topi (y := nI (n)) (hc) ?_
                refine n_icmp_ge (pc' := 51) (tg := 98) hB dc_M_inversions_48 rfl rfl (by omega) (by omega) (fun b2 => ?_) (fun b2 => ?_)
                · rw [show n - j = 0 by omega, zs_zero] at k2
                  refine n_inc (q := 1) (z := 1) (pc' := 101) (lv' := [(4, .int (nI (i + 1))), (5, .int (nI (j))), (3, .int (nI (m2))), (0, .ref (o.G.ad (24))), (1, .int (nI (k))), (2, .int (nI (od)))]) hB hm dc_M_inversions_98 rfl rfl (by decide) rfl ?_
                  refine y_goto (tg := 23) hB dc_M_inversions_101 rfl ?_
                  refine y_sub [0, 2, 3, 4, 5] rfl ?_
                  exact ih (i + 1) m2 (by omega) (by omega) (by simpa [zk] using k2)
                · rw [zk_at _ _ _ b2] at k2
                  refine y_iload_n (pc' := 52) hB dc_M_inversions_51 rfl rfl 5 rfl ?_
                  refine y_aload_n (pc' := 53) hB dc_M_inversions_52 rfl rfl 3 rfl ?_
                  refine f_M_keys (pc' := 56) hB dc_M_inversions_53 rfl q_640 ?_
                  refine y_sipush (v := nI 1024) (pc' := 59) hB dc_M_inversions_56 rfl (by decide) ?_
                  refine y_iload_n (pc' := 60) hB dc_M_inversions_59 rfl rfl 4 rfl ?_
                  refine n_imul (x := 1024) (y := k) (pc' := 61) hB dc_M_inversions_60 rfl ?_
                  refine y_iload (pc' := 63) hB dc_M_inversions_61 rfl 0 rfl ?_
                  refine n_iadd (x := 1024 * k) (y := j) (pc' := 64) hB dc_M_inversions_63 rfl ?_
                  refine y_lald (c := 25) (n := 4096) (j := (1024 * k) + j) (pc' := 65) hB dc_M_inversions_64 rfl (by decide) rfl (by omega) (by decide) ?_
                  refine y_aload_n (pc' := 66) hB dc_M_inversions_65 rfl rfl 3 rfl ?_
                  refine f_M_keys (pc' := 69) hB dc_M_inversions_66 rfl q_640 ?_
                  refine y_sipush (v := nI 1024) (pc' := 72) hB dc_M_inversions_69 rfl (by decide) ?_
                  refine y_iload_n (pc' := 73) hB dc_M_inversions_72 rfl rfl 4 rfl ?_
                  refine n_imul (x := 1024) (y := k) (pc' := 74) hB dc_M_inversions_73 rfl ?_
                  refine y_iload (pc' := 76) hB dc_M_inversions_74 rfl 1 rfl ?_
                  refine n_iadd (x := 1024 * k) (y := i) (pc' := 77) hB dc_M_inversions_76 rfl ?_
                  refine y_lald (c := 25) (n := 4096) (j := (1024 * k) + i) (pc' := 78) hB dc_M_inversions_77 rfl (by decide) rfl (by omega) (by decide) ?_
                  refine y_callS (As := [.int (nI (od)), .long (gL (yx S 0) (25) ((1024 * k) + j)), .long (gL (yx S 0) (25) ((1024 * k) + i))]) (rest := []) (pc' := 81) hB hE (ct_M_isBefore o.l o.G (yx S 0) od ho ((ze4 S k) j).1 ((ze4 S k) i).1) mm_M_isBefore q_740 q_741 dc_M_inversions_78 rfl (by decide) rfl rfl (Nat.le_of_ble_eq_true rfl) (fun v S' hpost => ?_)
                  obtain ⟨rfl, hSS⟩ := hpost
                  rw [hSS]
                  clear hSS S'
                  show yW o (yx S 0) 81 [(5, .int (nI (j))), (4, .int (nI (i))), (3, .int (nI (m2))), (0, .ref (o.G.ad (24))), (1, .int (nI (k))), (2, .int (nI (od)))] [.int (yb (decide (zr od ((ze4 S k) j).1 < zr od ((ze4 S k) i).1)))]
                  refine y_if_eq (x := yb (decide (zr od ((ze4 S k) j).1 < zr od ((ze4 S k) i).1))) (pc' := 84) (tg := 90) hB dc_M_inversions_81 rfl rfl (fun b3 => ?_) (fun b3 => ?_)
                  · rw [yb_0, decide_eq_false_iff_not] at b3
                    rw [if_neg (show ¬ zq od false ((ze4 S k) j) < zq od false ((ze4 S k) i) from b3)] at k2
                    refine y_iload_n (pc' := 91) hB dc_M_inversions_90 rfl rfl 2 rfl ?_
                    refine y_istore_n (pc' := 92) (lv' := [(3, .int (nI (m2))), (5, .int (nI (j))), (4, .int (nI (i))), (0, .ref (o.G.ad (24))), (1, .int (nI (k))), (2, .int (nI (od)))]) hB hm dc_M_inversions_91 rfl rfl (by decide) rfl ?_
                    refine n_inc (q := 1) (z := 1) (pc' := 95) (lv' := [(5, .int (nI (j + 1))), (3, .int (nI (m2))), (4, .int (nI (i))), (0, .ref (o.G.ad (24))), (1, .int (nI (k))), (2, .int (nI (od)))]) hB hm dc_M_inversions_92 rfl rfl (by decide) rfl ?_
                    refine y_goto (tg := 40) hB dc_M_inversions_95 rfl ?_
                    refine y_sub [0, 2, 1, 3, 4, 5] rfl ?_
                    exact ih2 (j + 1) m2 (by omega) (by omega) (by omega)
                  · rw [yb_n, decide_eq_true_eq] at b3
                    rw [if_pos (show zq od false ((ze4 S k) j) < zq od false ((ze4 S k) i) from b3)] at k2
                    refine y_iload_n (pc' := 85) hB dc_M_inversions_84 rfl rfl 2 rfl ?_
                    refine y_iconst (v := nI 1) (pc' := 86) hB dc_M_inversions_85 rfl rfl ?_
                    refine n_iadd (x := m2) (y := 1) (pc' := 87) hB dc_M_inversions_86 rfl ?_
                    refine y_goto (tg := 91) hB dc_M_inversions_87 rfl ?_
                    refine y_istore_n (pc' := 92) (lv' := [(3, .int (nI (m2 + 1))), (5, .int (nI (j))), (4, .int (nI (i))), (0, .ref (o.G.ad (24))), (1, .int (nI (k))), (2, .int (nI (od)))]) hB hm dc_M_inversions_91 rfl rfl (by decide) rfl ?_
                    refine n_inc (q := 1) (z := 1) (pc' := 95) (lv' := [(5, .int (nI (j + 1))), (3, .int (nI (m2 + 1))), (4, .int (nI (i))), (0, .ref (o.G.ad (24))), (1, .int (nI (k))), (2, .int (nI (od)))]) hB hm dc_M_inversions_92 rfl rfl (by decide) rfl ?_
                    refine y_goto (tg := 40) hB dc_M_inversions_95 rfl ?_
                    refine y_sub [0, 2, 1, 3, 4, 5] rfl ?_
                    exact ih2 (j + 1) (m2 + 1) (by omega) (by omega) (by omega)
            exact inner (n + 1) (i + 1) mn (by omega) (by omega) (by omega)
      exact outer (n + 1) 0 0 (by omega) (by omega) (by rw [Nat.sub_zero, Nat.zero_add])
    · exact absurd rfl c2
