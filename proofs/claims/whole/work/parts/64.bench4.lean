/-! BENCH: calls that use the desk -/
theorem dc_B_number_0 : decode mb_B_number 0 = .ok (.aload_n 0, 1) := by decide +kernel
theorem dc_B_number_1 : decode mb_B_number 1 = .ok (.iload_n 1, 1) := by decide +kernel
theorem dc_B_number_2 : decode mb_B_number 2 = .ok (.invokevirtual 49, 3) := by decide +kernel
theorem dc_B_number_5 : decode mb_B_number 5 = .ok (.invokevirtual 75, 3) := by decide +kernel
theorem dc_B_number_8 : decode mb_B_number 8 = .ok (.return_, 1) := by decide +kernel
theorem dc_B_copy_0 : decode mb_B_copy 0 = .ok (.aload_n 0, 1) := by decide +kernel
theorem dc_B_copy_1 : decode mb_B_copy 1 = .ok (.iload_n 1, 1) := by decide +kernel
theorem dc_B_copy_2 : decode mb_B_copy 2 = .ok (.invokevirtual 49, 3) := by decide +kernel
theorem dc_B_copy_5 : decode mb_B_copy 5 = .ok (.astore_n 3, 1) := by decide +kernel
theorem dc_B_copy_6 : decode mb_B_copy 6 = .ok (.aload_n 0, 1) := by decide +kernel
theorem dc_B_copy_7 : decode mb_B_copy 7 = .ok (.iload_n 2, 1) := by decide +kernel
theorem dc_B_copy_8 : decode mb_B_copy 8 = .ok (.invokevirtual 49, 3) := by decide +kernel
theorem dc_B_copy_11 : decode mb_B_copy 11 = .ok (.astore 4, 2) := by decide +kernel
theorem dc_B_copy_13 : decode mb_B_copy 13 = .ok (.aload 4, 2) := by decide +kernel
theorem dc_B_copy_15 : decode mb_B_copy 15 = .ok (.aload_n 3, 1) := by decide +kernel
theorem dc_B_copy_16 : decode mb_B_copy 16 = .ok (.invokevirtual 99, 3) := by decide +kernel
theorem dc_B_copy_19 : decode mb_B_copy 19 = .ok (.return_, 1) := by decide +kernel
theorem dc_B_inversions_0 : decode mb_B_inversions 0 = .ok (.aload_n 0, 1) := by decide +kernel
theorem dc_B_inversions_1 : decode mb_B_inversions 1 = .ok (.iload_n 1, 1) := by decide +kernel
theorem dc_B_inversions_2 : decode mb_B_inversions 2 = .ok (.invokevirtual 49, 3) := by decide +kernel
theorem dc_B_inversions_5 : decode mb_B_inversions 5 = .ok (.astore_n 3, 1) := by decide +kernel
theorem dc_B_inversions_6 : decode mb_B_inversions 6 = .ok (.aload_n 0, 1) := by decide +kernel
theorem dc_B_inversions_7 : decode mb_B_inversions 7 = .ok (.iload_n 2, 1) := by decide +kernel
theorem dc_B_inversions_8 : decode mb_B_inversions 8 = .ok (.invokevirtual 159, 3) := by decide +kernel
theorem dc_B_inversions_11 : decode mb_B_inversions 11 = .ok (.aload_n 0, 1) := by decide +kernel
theorem dc_B_inversions_12 : decode mb_B_inversions 12 = .ok (.getfield 16, 3) := by decide +kernel
theorem dc_B_inversions_15 : decode mb_B_inversions 15 = .ok (.aload_n 3, 1) := by decide +kernel
theorem dc_B_inversions_16 : decode mb_B_inversions 16 = .ok (.invokevirtual 99, 3) := by decide +kernel
theorem dc_B_inversions_19 : decode mb_B_inversions 19 = .ok (.aload_n 0, 1) := by decide +kernel
theorem dc_B_inversions_20 : decode mb_B_inversions 20 = .ok (.getfield 16, 3) := by decide +kernel
theorem dc_B_inversions_23 : decode mb_B_inversions 23 = .ok (.aload_n 0, 1) := by decide +kernel
theorem dc_B_inversions_24 : decode mb_B_inversions 24 = .ok (.getfield 20, 3) := by decide +kernel
theorem dc_B_inversions_27 : decode mb_B_inversions 27 = .ok (.aload_n 0, 1) := by decide +kernel
theorem dc_B_inversions_28 : decode mb_B_inversions 28 = .ok (.getfield 26, 3) := by decide +kernel
theorem dc_B_inversions_31 : decode mb_B_inversions 31 = .ok (.invokestatic 142, 3) := by decide +kernel
theorem dc_B_inversions_34 : decode mb_B_inversions 34 = .ok (.ireturn, 1) := by decide +kernel
theorem dc_B_ranked_0 : decode mb_B_ranked 0 = .ok (.aload_n 0, 1) := by decide +kernel
theorem dc_B_ranked_1 : decode mb_B_ranked 1 = .ok (.iload_n 1, 1) := by decide +kernel
theorem dc_B_ranked_2 : decode mb_B_ranked 2 = .ok (.invokevirtual 49, 3) := by decide +kernel
theorem dc_B_ranked_5 : decode mb_B_ranked 5 = .ok (.astore 4, 2) := by decide +kernel
theorem dc_B_ranked_7 : decode mb_B_ranked 7 = .ok (.aload 4, 2) := by decide +kernel
theorem dc_B_ranked_9 : decode mb_B_ranked 9 = .ok (.iload_n 3, 1) := by decide +kernel
theorem dc_B_ranked_10 : decode mb_B_ranked 10 = .ok (.invokestatic 92, 3) := by decide +kernel
theorem dc_B_ranked_13 : decode mb_B_ranked 13 = .ok (.aload_n 0, 1) := by decide +kernel
theorem dc_B_ranked_14 : decode mb_B_ranked 14 = .ok (.iload_n 2, 1) := by decide +kernel
theorem dc_B_ranked_15 : decode mb_B_ranked 15 = .ok (.invokevirtual 159, 3) := by decide +kernel
theorem dc_B_ranked_18 : decode mb_B_ranked 18 = .ok (.aload_n 0, 1) := by decide +kernel
theorem dc_B_ranked_19 : decode mb_B_ranked 19 = .ok (.getfield 16, 3) := by decide +kernel
theorem dc_B_ranked_22 : decode mb_B_ranked 22 = .ok (.aload 4, 2) := by decide +kernel
theorem dc_B_ranked_24 : decode mb_B_ranked 24 = .ok (.invokevirtual 99, 3) := by decide +kernel
theorem dc_B_ranked_27 : decode mb_B_ranked 27 = .ok (.aload_n 0, 1) := by decide +kernel
theorem dc_B_ranked_28 : decode mb_B_ranked 28 = .ok (.getfield 16, 3) := by decide +kernel
theorem dc_B_ranked_31 : decode mb_B_ranked 31 = .ok (.aload_n 0, 1) := by decide +kernel
theorem dc_B_ranked_32 : decode mb_B_ranked 32 = .ok (.getfield 20, 3) := by decide +kernel
theorem dc_B_ranked_35 : decode mb_B_ranked 35 = .ok (.aload_n 0, 1) := by decide +kernel
theorem dc_B_ranked_36 : decode mb_B_ranked 36 = .ok (.getfield 26, 3) := by decide +kernel
theorem dc_B_ranked_39 : decode mb_B_ranked 39 = .ok (.invokestatic 142, 3) := by decide +kernel
theorem dc_B_ranked_42 : decode mb_B_ranked 42 = .ok (.pop, 1) := by decide +kernel
theorem dc_B_ranked_43 : decode mb_B_ranked 43 = .ok (.aload_n 0, 1) := by decide +kernel
theorem dc_B_ranked_44 : decode mb_B_ranked 44 = .ok (.getfield 16, 3) := by decide +kernel
theorem dc_B_ranked_47 : decode mb_B_ranked 47 = .ok (.getfield 103, 3) := by decide +kernel
theorem dc_B_ranked_50 : decode mb_B_ranked 50 = .ok (.iload_n 3, 1) := by decide +kernel
theorem dc_B_ranked_51 : decode mb_B_ranked 51 = .ok (.iaload, 1) := by decide +kernel
theorem dc_B_ranked_52 : decode mb_B_ranked 52 = .ok (.ireturn, 1) := by decide +kernel
theorem dc_B_merge_0 : decode mb_B_merge 0 = .ok (.aload_n 0, 1) := by decide +kernel
theorem dc_B_merge_1 : decode mb_B_merge 1 = .ok (.iload_n 1, 1) := by decide +kernel
theorem dc_B_merge_2 : decode mb_B_merge 2 = .ok (.invokevirtual 49, 3) := by decide +kernel
theorem dc_B_merge_5 : decode mb_B_merge 5 = .ok (.astore 5, 2) := by decide +kernel
theorem dc_B_merge_7 : decode mb_B_merge 7 = .ok (.aload_n 0, 1) := by decide +kernel
theorem dc_B_merge_8 : decode mb_B_merge 8 = .ok (.iload_n 2, 1) := by decide +kernel
theorem dc_B_merge_9 : decode mb_B_merge 9 = .ok (.invokevirtual 49, 3) := by decide +kernel
theorem dc_B_merge_12 : decode mb_B_merge 12 = .ok (.astore 6, 2) := by decide +kernel
theorem dc_B_merge_14 : decode mb_B_merge 14 = .ok (.aload_n 0, 1) := by decide +kernel
theorem dc_B_merge_15 : decode mb_B_merge 15 = .ok (.iload_n 3, 1) := by decide +kernel
theorem dc_B_merge_16 : decode mb_B_merge 16 = .ok (.invokevirtual 49, 3) := by decide +kernel
theorem dc_B_merge_19 : decode mb_B_merge 19 = .ok (.astore 7, 2) := by decide +kernel
theorem dc_B_merge_21 : decode mb_B_merge 21 = .ok (.aload_n 0, 1) := by decide +kernel
theorem dc_B_merge_22 : decode mb_B_merge 22 = .ok (.iload 4, 2) := by decide +kernel
theorem dc_B_merge_24 : decode mb_B_merge 24 = .ok (.invokevirtual 159, 3) := by decide +kernel
theorem dc_B_merge_27 : decode mb_B_merge 27 = .ok (.aload_n 0, 1) := by decide +kernel
theorem dc_B_merge_28 : decode mb_B_merge 28 = .ok (.aload 5, 2) := by decide +kernel
theorem dc_B_merge_30 : decode mb_B_merge 30 = .ok (.invokevirtual 187, 3) := by decide +kernel
theorem dc_B_merge_33 : decode mb_B_merge 33 = .ok (.aload_n 0, 1) := by decide +kernel
theorem dc_B_merge_34 : decode mb_B_merge 34 = .ok (.aload 6, 2) := by decide +kernel
theorem dc_B_merge_36 : decode mb_B_merge 36 = .ok (.invokevirtual 187, 3) := by decide +kernel
theorem dc_B_merge_39 : decode mb_B_merge 39 = .ok (.aload 5, 2) := by decide +kernel
theorem dc_B_merge_41 : decode mb_B_merge 41 = .ok (.getfield 53, 3) := by decide +kernel
theorem dc_B_merge_44 : decode mb_B_merge 44 = .ok (.istore 8, 2) := by decide +kernel
theorem dc_B_merge_46 : decode mb_B_merge 46 = .ok (.iload 8, 2) := by decide +kernel
theorem dc_B_merge_48 : decode mb_B_merge 48 = .ok (.aload 6, 2) := by decide +kernel
theorem dc_B_merge_50 : decode mb_B_merge 50 = .ok (.getfield 53, 3) := by decide +kernel
theorem dc_B_merge_53 : decode mb_B_merge 53 = .ok (.iadd, 1) := by decide +kernel
theorem dc_B_merge_54 : decode mb_B_merge 54 = .ok (.istore 9, 2) := by decide +kernel
theorem dc_B_merge_56 : decode mb_B_merge 56 = .ok (.iload 9, 2) := by decide +kernel
theorem dc_B_merge_58 : decode mb_B_merge 58 = .ok (.sipush 1024, 3) := by decide +kernel
theorem dc_B_merge_61 : decode mb_B_merge 61 = .ok (.if_icmp .le 13, 3) := by decide +kernel
theorem dc_B_merge_64 : decode mb_B_merge 64 = .ok (.new 57, 3) := by decide +kernel
theorem dc_B_merge_67 : decode mb_B_merge 67 = .ok (.dup, 1) := by decide +kernel
theorem dc_B_merge_68 : decode mb_B_merge 68 = .ok (.ldc 190, 2) := by decide +kernel
theorem dc_B_merge_70 : decode mb_B_merge 70 = .ok (.invokespecial 61, 3) := by decide +kernel
theorem dc_B_merge_73 : decode mb_B_merge 73 = .ok (.athrow, 1) := by decide +kernel
theorem dc_B_merge_74 : decode mb_B_merge 74 = .ok (.aload_n 0, 1) := by decide +kernel
theorem dc_B_merge_75 : decode mb_B_merge 75 = .ok (.getfield 20, 3) := by decide +kernel
theorem dc_B_merge_78 : decode mb_B_merge 78 = .ok (.iconst 0, 1) := by decide +kernel
theorem dc_B_merge_79 : decode mb_B_merge 79 = .ok (.aload 5, 2) := by decide +kernel
theorem dc_B_merge_81 : decode mb_B_merge 81 = .ok (.iconst 0, 1) := by decide +kernel
theorem dc_B_merge_82 : decode mb_B_merge 82 = .ok (.iload 8, 2) := by decide +kernel
theorem dc_B_merge_84 : decode mb_B_merge 84 = .ok (.invokevirtual 192, 3) := by decide +kernel
theorem dc_B_merge_87 : decode mb_B_merge 87 = .ok (.aload_n 0, 1) := by decide +kernel
theorem dc_B_merge_88 : decode mb_B_merge 88 = .ok (.getfield 20, 3) := by decide +kernel
theorem dc_B_merge_91 : decode mb_B_merge 91 = .ok (.iload 8, 2) := by decide +kernel
theorem dc_B_merge_93 : decode mb_B_merge 93 = .ok (.aload 6, 2) := by decide +kernel
theorem dc_B_merge_95 : decode mb_B_merge 95 = .ok (.iconst 0, 1) := by decide +kernel
theorem dc_B_merge_96 : decode mb_B_merge 96 = .ok (.aload 6, 2) := by decide +kernel
theorem dc_B_merge_98 : decode mb_B_merge 98 = .ok (.getfield 53, 3) := by decide +kernel
theorem dc_B_merge_101 : decode mb_B_merge 101 = .ok (.invokevirtual 192, 3) := by decide +kernel
theorem dc_B_merge_104 : decode mb_B_merge 104 = .ok (.aload_n 0, 1) := by decide +kernel
theorem dc_B_merge_105 : decode mb_B_merge 105 = .ok (.getfield 20, 3) := by decide +kernel
theorem dc_B_merge_108 : decode mb_B_merge 108 = .ok (.iconst 0, 1) := by decide +kernel
theorem dc_B_merge_109 : decode mb_B_merge 109 = .ok (.iload 8, 2) := by decide +kernel
theorem dc_B_merge_111 : decode mb_B_merge 111 = .ok (.iload 9, 2) := by decide +kernel
theorem dc_B_merge_113 : decode mb_B_merge 113 = .ok (.aload 7, 2) := by decide +kernel
theorem dc_B_merge_115 : decode mb_B_merge 115 = .ok (.aload_n 0, 1) := by decide +kernel
theorem dc_B_merge_116 : decode mb_B_merge 116 = .ok (.getfield 26, 3) := by decide +kernel
theorem dc_B_merge_119 : decode mb_B_merge 119 = .ok (.invokestatic 196, 3) := by decide +kernel
theorem dc_B_merge_122 : decode mb_B_merge 122 = .ok (.pop, 1) := by decide +kernel
theorem dc_B_merge_123 : decode mb_B_merge 123 = .ok (.aload 7, 2) := by decide +kernel
theorem dc_B_merge_125 : decode mb_B_merge 125 = .ok (.iload 9, 2) := by decide +kernel
theorem dc_B_merge_127 : decode mb_B_merge 127 = .ok (.putfield 53, 3) := by decide +kernel
theorem dc_B_merge_130 : decode mb_B_merge 130 = .ok (.iload 9, 2) := by decide +kernel
theorem dc_B_merge_132 : decode mb_B_merge 132 = .ok (.ireturn, 1) := by decide +kernel
theorem yJ_cnt {S : YS} {od c : Nat} {tg : Bool} (h : yJ S od tg c) {r : Nat} (hr : r < 6) (v : Int32) : yJ (sF S (2 + r) 2 v) od tg c := by
  obtain ⟨h1, h2, h3, h4⟩ := h
  refine ⟨h1, ?_, ?_, ?_⟩
  · rw [gF_sF, if_neg (by omega)]; exact h2
  · rw [gF_sF, if_neg (by omega)]; exact h3
  · rw [gF_sF, if_neg (by omega)]; exact h4
/-- the desk is made like a row -/
def yD (S : YS) (k n : Nat) : YS := sF (yz S 4 (va_cpy (ye S k) (ye S 4) 0 0 n)) (2 + 4) 2 (nI n)
theorem yD_J {S : YS} {od c k n : Nat} {tg : Bool} (h : yJ S od tg c) : yJ (yD S k n) od tg c := yJ_cnt (yJ_yz h 4 _) (by decide) _
theorem yD_n (S : YS) (k n : Nat) : gF (yD S k n) (2 + 4) 2 = nI n := by unfold yD; rw [gF_sF, if_pos ⟨rfl, rfl⟩]
theorem yD_c (S : YS) (k n : Nat) {q : Nat} (h : q < 4) : gF (yD S k n) (2 + q) 2 = gF S (2 + q) 2 := by unfold yD; rw [gF_sF, if_neg (by omega)]; rfl
theorem yD_U (S : YS) (k n : Nat) : yU S (yD S k n) := (yU_yz S (Or.inl rfl) _).tr (yU_cnt _ (Or.inl rfl) _)
theorem yD_ye (S : YS) (k n : Nat) : ye (yD S k n) 4 = va_cpy (ye S k) (ye S 4) 0 0 n := ye_yz S 4 _
theorem zs_cpy {α : Type} (f g : Nat → α) (n : Nat) : zs (va_cpy f g 0 0 n) 0 n = zs f 0 n := zs_congr (fun j hj => by rw [pk_cpy_in (by omega) (by omega)]; congr 1; omega)
theorem yD_zs (S : YS) (k n : Nat) : zs (ye (yD S k n) 4) 0 n = zs (ye S k) 0 n := by rw [yD_ye, zs_cpy]
set_option maxHeartbeats 4000000 in
set_option maxRecDepth 100000 in
theorem ct_B_number (l : Launch) (g : YG) (S : YS) (k n : Nat) (hk : k < 4) (hn : n ≤ 1024) (hc : gF S (2 + k) 2 = nI n)  : yC l mn_B_number mb_B_number 2 none 3 g [.ref (g.ad (0)), .int (nI (k))] S (fun v S' => v = none ∧ S' = yz S k (znm (ye S k) n)) := by
  refine yC_of (by decide) (Nat.le_of_ble_eq_true rfl) ?_
  intro o hl hg hB0 hE
  subst hl
  subst hg
  have hB : yB o mb_B_number "OrderBench" := hB0
  have hm := hE.1
  show yW o (S) 0 [(0, .ref (o.G.ad (0))), (1, .int (nI (k)))] []
  have hk6 : k < 6 := by omega
  refine y_aload_n (pc' := 1) hB dc_B_number_0 rfl rfl 0 rfl ?_
  refine y_iload_n (pc' := 2) hB dc_B_number_1 rfl rfl 1 rfl ?_
  refine y_callV (c := 0) (ci := 0) (As := [.int (nI (k))]) (rest := []) (pc' := 5) hB hE (ct_B_rowAt o.l o.G (S) k hk) mm_B_rowAt q_137 q_139 qs_0 (by decide) rfl rfl dc_B_number_2 rfl (by decide) rfl rfl (Nat.le_of_ble_eq_true rfl) (fun v S' hpost => ?_)
  obtain ⟨rfl, hSS⟩ := hpost
  rw [hSS]
  clear hSS S'
  show yW o (S) 5 [(0, .ref (o.G.ad (0))), (1, .int (nI (k)))] [.ref (o.G.ad (2 + k))]
  refine y_callV (c := 2 + k) (ci := 1) (As := []) (rest := []) (pc' := 8) hB hE (ct_R_numberTags o.l o.G S k hk6 n hn hc) mm_R_numberTags q_254 q_255 q_256 (by unfold yN; omega) (yk_row (by omega)).1 rfl dc_B_number_5 rfl (by decide) rfl rfl (Nat.le_of_ble_eq_true rfl) (fun v S' hpost => ?_)
  obtain ⟨rfl, hSS⟩ := hpost
  rw [hSS]
  clear hSS S'
  show yW o (yz S k (znm (ye S k) n)) 8 [(0, .ref (o.G.ad (0))), (1, .int (nI (k)))] []
  exact y_vret hB hE dc_B_number_8 ⟨rfl, rfl⟩
set_option maxHeartbeats 4000000 in
set_option maxRecDepth 100000 in
theorem ct_B_copy (l : Launch) (g : YG) (S : YS) (k n : Nat) (hk : k < 4) (hn : n ≤ 1024) (hc : gF S (2 + k) 2 = nI n) (q : Nat) (hq : q < 4) : yC l mn_B_copy mb_B_copy 5 none 3 g [.ref (g.ad (0)), .int (nI (k)), .int (nI (q))] S (fun v S' => v = none ∧ S' = sF (yz S q (va_cpy (ye S k) (ye S q) 0 0 n)) (2 + q) 2 (nI n)) := by
  refine yC_of (by decide) (Nat.le_of_ble_eq_true rfl) ?_
  intro o hl hg hB0 hE
  subst hl
  subst hg
  have hB : yB o mb_B_copy "OrderBench" := hB0
  have hm := hE.1
  show yW o (S) 0 [(0, .ref (o.G.ad (0))), (1, .int (nI (k))), (2, .int (nI (q)))] []
  have hk6 : k < 6 := by omega
  refine y_aload_n (pc' := 1) hB dc_B_copy_0 rfl rfl 0 rfl ?_
  refine y_iload_n (pc' := 2) hB dc_B_copy_1 rfl rfl 1 rfl ?_
  refine y_callV (c := 0) (ci := 0) (As := [.int (nI (k))]) (rest := []) (pc' := 5) hB hE (ct_B_rowAt o.l o.G (S) k hk) mm_B_rowAt q_137 q_139 qs_0 (by decide) rfl rfl dc_B_copy_2 rfl (by decide) rfl rfl (Nat.le_of_ble_eq_true rfl) (fun v S' hpost => ?_)
  obtain ⟨rfl, hSS⟩ := hpost
  rw [hSS]
  clear hSS S'
  show yW o (S) 5 [(0, .ref (o.G.ad (0))), (1, .int (nI (k))), (2, .int (nI (q)))] [.ref (o.G.ad (2 + k))]
  refine y_astore_n (pc' := 6) (lv' := [(3, .ref (o.G.ad (2 + k))), (0, .ref (o.G.ad (0))), (1, .int (nI (k))), (2, .int (nI (q)))]) hB hm dc_B_copy_5 rfl rfl (by decide) rfl ?_
  refine y_aload_n (pc' := 7) hB dc_B_copy_6 rfl rfl 1 rfl ?_
  refine y_iload_n (pc' := 8) hB dc_B_copy_7 rfl rfl 3 rfl ?_
  refine y_callV (c := 0) (ci := 0) (As := [.int (nI (q))]) (rest := []) (pc' := 11) hB hE (ct_B_rowAt o.l o.G (S) q hq) mm_B_rowAt q_137 q_139 qs_0 (by decide) rfl rfl dc_B_copy_8 rfl (by decide) rfl rfl (Nat.le_of_ble_eq_true rfl) (fun v S' hpost => ?_)
  obtain ⟨rfl, hSS⟩ := hpost
  rw [hSS]
  clear hSS S'
  show yW o (S) 11 [(3, .ref (o.G.ad (2 + k))), (0, .ref (o.G.ad (0))), (1, .int (nI (k))), (2, .int (nI (q)))] [.ref (o.G.ad (2 + q))]
  refine y_astore (pc' := 13) (lv' := [(4, .ref (o.G.ad (2 + q))), (3, .ref (o.G.ad (2 + k))), (0, .ref (o.G.ad (0))), (1, .int (nI (k))), (2, .int (nI (q)))]) hB hm dc_B_copy_11 rfl (by decide) rfl ?_
  refine y_aload (pc' := 15) hB dc_B_copy_13 rfl 0 rfl ?_
  refine y_aload_n (pc' := 16) hB dc_B_copy_15 rfl rfl 1 rfl ?_
  refine y_callV (c := 2 + q) (ci := 1) (As := [.ref (o.G.ad (2 + k))]) (rest := []) (pc' := 19) hB hE (ct_R_becomeLike o.l o.G S q (by omega) k hk6 n hn hc) mm_R_becomeLike q_310 q_311 q_312 (by unfold yN; omega) (yk_row (by omega)).1 rfl dc_B_copy_16 rfl (by decide) rfl rfl (Nat.le_of_ble_eq_true rfl) (fun v S' hpost => ?_)
  obtain ⟨rfl, hSS⟩ := hpost
  rw [hSS]
  clear hSS S'
  show yW o (sF (yz S q (va_cpy (ye S k) (ye S q) 0 0 n)) (2 + q) 2 (nI n)) 19 [(4, .ref (o.G.ad (2 + q))), (3, .ref (o.G.ad (2 + k))), (0, .ref (o.G.ad (0))), (1, .int (nI (k))), (2, .int (nI (q)))] []
  exact y_vret hB hE dc_B_copy_19 ⟨rfl, rfl⟩
set_option maxHeartbeats 4000000 in
set_option maxRecDepth 100000 in
theorem ct_B_inversions (l : Launch) (g : YG) (S : YS) (k n : Nat) (hk : k < 4) (hn : n ≤ 1024) (hc : gF S (2 + k) 2 = nI n) (od : Nat) (ho : od < 8) : yC l mn_B_inversions mb_B_inversions 4 (some .int) 7 g [.ref (g.ad (0)), .int (nI (k)), .int (nI (od))] S (fun v S' => v = some (.int (nI (zj (zq od false) (zs (ye S k) 0 n)))) ∧ yU S S') := by
  refine yC_of (by decide) (Nat.le_of_ble_eq_true rfl) ?_
  intro o hl hg hB0 hE
  subst hl
  subst hg
  have hB : yB o mb_B_inversions "OrderBench" := hB0
  have hm := hE.1
  show yW o (S) 0 [(0, .ref (o.G.ad (0))), (1, .int (nI (k))), (2, .int (nI (od)))] []
  have hk6 : k < 6 := by omega
  refine y_aload_n (pc' := 1) hB dc_B_inversions_0 rfl rfl 0 rfl ?_
  refine y_iload_n (pc' := 2) hB dc_B_inversions_1 rfl rfl 1 rfl ?_
  refine y_callV (c := 0) (ci := 0) (As := [.int (nI (k))]) (rest := []) (pc' := 5) hB hE (ct_B_rowAt o.l o.G (S) k hk) mm_B_rowAt q_137 q_139 qs_0 (by decide) rfl rfl dc_B_inversions_2 rfl (by decide) rfl rfl (Nat.le_of_ble_eq_true rfl) (fun v S' hpost => ?_)
  obtain ⟨rfl, hSS⟩ := hpost
  rw [hSS]
  clear hSS S'
  show yW o (S) 5 [(0, .ref (o.G.ad (0))), (1, .int (nI (k))), (2, .int (nI (od)))] [.ref (o.G.ad (2 + k))]
  refine y_astore_n (pc' := 6) (lv' := [(3, .ref (o.G.ad (2 + k))), (0, .ref (o.G.ad (0))), (1, .int (nI (k))), (2, .int (nI (od)))]) hB hm dc_B_inversions_5 rfl rfl (by decide) rfl ?_
  refine y_aload_n (pc' := 7) hB dc_B_inversions_6 rfl rfl 1 rfl ?_
  refine y_iload_n (pc' := 8) hB dc_B_inversions_7 rfl rfl 3 rfl ?_
  refine y_callV (c := 0) (ci := 0) (As := [.int (nI (od))]) (rest := []) (pc' := 11) hB hE (ct_B_judgeBy o.l o.G S od ho) mm_B_judgeBy q_540 q_542 qs_8 (by decide) rfl rfl dc_B_inversions_8 rfl (by decide) rfl rfl (Nat.le_of_ble_eq_true rfl) (fun v S' hpost => ?_)
  obtain ⟨rfl, hSS⟩ := hpost
  rw [hSS]
  clear hSS S'
  show yW o (yj S od false) 11 [(3, .ref (o.G.ad (2 + k))), (0, .ref (o.G.ad (0))), (1, .int (nI (k))), (2, .int (nI (od)))] []
  refine y_aload_n (pc' := 12) hB dc_B_inversions_11 rfl rfl 1 rfl ?_
  refine f_B_desk (pc' := 15) hB dc_B_inversions_12 rfl q_103 ?_
  refine y_aload_n (pc' := 16) hB dc_B_inversions_15 rfl rfl 0 rfl ?_
  refine y_callV (c := 2 + 4) (ci := 1) (As := [.ref (o.G.ad (2 + k))]) (rest := []) (pc' := 19) hB hE (ct_R_becomeLike o.l o.G (yj S od false) 4 (by decide) k hk6 n hn ((yj_n S od false hk6).trans hc)) mm_R_becomeLike q_310 q_311 q_312 (by unfold yN; omega) (yk_row (by omega)).1 rfl dc_B_inversions_16 rfl (by decide) rfl rfl (Nat.le_of_ble_eq_true rfl) (fun v S' hpost => ?_)
  obtain ⟨rfl, hSS⟩ := hpost
  rw [hSS]
  clear hSS S'
  show yW o (yD (yj S od false) k n) 19 [(3, .ref (o.G.ad (2 + k))), (0, .ref (o.G.ad (0))), (1, .int (nI (k))), (2, .int (nI (od)))] []
  refine y_aload_n (pc' := 20) hB dc_B_inversions_19 rfl rfl 1 rfl ?_
  refine f_B_desk (pc' := 23) hB dc_B_inversions_20 rfl q_103 ?_
  refine y_aload_n (pc' := 24) hB dc_B_inversions_23 rfl rfl 1 rfl ?_
  refine f_B_spare (pc' := 27) hB dc_B_inversions_24 rfl q_104 ?_
  refine y_aload_n (pc' := 28) hB dc_B_inversions_27 rfl rfl 1 rfl ?_
  refine f_B_judge (pc' := 31) hB dc_B_inversions_28 rfl q_105 ?_
  refine y_callS (As := [.ref (o.G.ad (2 + 4)), .ref (o.G.ad (2 + 5)), .ref (o.G.ad (20))]) (rest := []) (pc' := 34) hB hE (ct_Me_arrange o.l o.G (yD (yj S od false) k n) od false 0 (yD_J (yj_J S false ho)) 4 (by decide) 5 (by decide) (by decide) n hn (yD_n _ k n) (zdb n) (zdb_pow hn)) mm_Me_arrange q_439 q_440 dc_B_inversions_31 rfl (by decide) rfl rfl (Nat.le_of_ble_eq_true rfl) (fun v S' hpost => ?_)
  obtain ⟨f3, g3, c3, rfl, rfl, m1, m2, m3, m4⟩ := hpost
  rw [yD_zs] at m2 ⊢
  show yW o (yq (yz (yz (yD (yj S od false) k n) 4 f3) 5 g3) c3) 34 [(3, .ref (o.G.ad (2 + k))), (0, .ref (o.G.ad (0))), (1, .int (nI (k))), (2, .int (nI (od)))] [.int (nI (zj (zq od false) (zs (ye (yj S od false) k) 0 n)))]
  have hU : yU S (yq (yz (yz (yD (yj S od false) k n) 4 f3) 5 g3) c3) := ((((yU_yj S od false).tr (yD_U _ k n)).tr (yU_yz _ (Or.inl rfl) f3)).tr (yU_yz _ (Or.inr rfl) g3)).tr (yU_yq _ _)
  exact y_iret hB hE dc_B_inversions_34 ⟨rfl, hU⟩
set_option maxHeartbeats 4000000 in
set_option maxRecDepth 100000 in
theorem ct_B_ranked (l : Launch) (g : YG) (S : YS) (k n : Nat) (hk : k < 4) (hn : n ≤ 1024) (hc : gF S (2 + k) 2 = nI n) (od i : Nat) (ho : od < 8) (hi : i < n) : yC l mn_B_ranked mb_B_ranked 5 (some .int) 7 g [.ref (g.ad (0)), .int (nI (k)), .int (nI (od)), .int (nI (i))] S (fun v S' => ∃ f', v = some (.int (f' i).2) ∧ yU S S' ∧ zs f' 0 n = zt (zq od false) (zs (ye S k) 0 n)) := by
  refine yC_of (by decide) (Nat.le_of_ble_eq_true rfl) ?_
  intro o hl hg hB0 hE
  subst hl
  subst hg
  have hB : yB o mb_B_ranked "OrderBench" := hB0
  have hm := hE.1
  show yW o (S) 0 [(0, .ref (o.G.ad (0))), (1, .int (nI (k))), (2, .int (nI (od))), (3, .int (nI (i)))] []
  have hk6 : k < 6 := by omega
  refine y_aload_n (pc' := 1) hB dc_B_ranked_0 rfl rfl 0 rfl ?_
  refine y_iload_n (pc' := 2) hB dc_B_ranked_1 rfl rfl 1 rfl ?_
  refine y_callV (c := 0) (ci := 0) (As := [.int (nI (k))]) (rest := []) (pc' := 5) hB hE (ct_B_rowAt o.l o.G (S) k hk) mm_B_rowAt q_137 q_139 qs_0 (by decide) rfl rfl dc_B_ranked_2 rfl (by decide) rfl rfl (Nat.le_of_ble_eq_true rfl) (fun v S' hpost => ?_)
  obtain ⟨rfl, hSS⟩ := hpost
  rw [hSS]
  clear hSS S'
  show yW o (S) 5 [(0, .ref (o.G.ad (0))), (1, .int (nI (k))), (2, .int (nI (od))), (3, .int (nI (i)))] [.ref (o.G.ad (2 + k))]
  refine y_astore (pc' := 7) (lv' := [(4, .ref (o.G.ad (2 + k))), (0, .ref (o.G.ad (0))), (1, .int (nI (k))), (2, .int (nI (od))), (3, .int (nI (i)))]) hB hm dc_B_ranked_5 rfl (by decide) rfl ?_
  refine y_aload (pc' := 9) hB dc_B_ranked_7 rfl 0 rfl ?_
  refine y_iload_n (pc' := 10) hB dc_B_ranked_9 rfl rfl 4 rfl ?_
  refine y_callS (As := [.ref (o.G.ad (2 + k)), .int (nI (i))]) (rest := []) (pc' := 13) hB hE (ct_B_checkEntry o.l o.G S k hk6 n hn hc i hi) mm_B_checkEntry q_283 q_284 dc_B_ranked_10 rfl (by decide) rfl rfl (Nat.le_of_ble_eq_true rfl) (fun v S' hpost => ?_)
  obtain ⟨rfl, hSS⟩ := hpost
  rw [hSS]
  clear hSS S'
  show yW o (S) 13 [(4, .ref (o.G.ad (2 + k))), (0, .ref (o.G.ad (0))), (1, .int (nI (k))), (2, .int (nI (od))), (3, .int (nI (i)))] []
  refine y_aload_n (pc' := 14) hB dc_B_ranked_13 rfl rfl 1 rfl ?_
  refine y_iload_n (pc' := 15) hB dc_B_ranked_14 rfl rfl 3 rfl ?_
  refine y_callV (c := 0) (ci := 0) (As := [.int (nI (od))]) (rest := []) (pc' := 18) hB hE (ct_B_judgeBy o.l o.G S od ho) mm_B_judgeBy q_540 q_542 qs_8 (by decide) rfl rfl dc_B_ranked_15 rfl (by decide) rfl rfl (Nat.le_of_ble_eq_true rfl) (fun v S' hpost => ?_)
  obtain ⟨rfl, hSS⟩ := hpost
  rw [hSS]
  clear hSS S'
  show yW o (yj S od false) 18 [(4, .ref (o.G.ad (2 + k))), (0, .ref (o.G.ad (0))), (1, .int (nI (k))), (2, .int (nI (od))), (3, .int (nI (i)))] []
  refine y_aload_n (pc' := 19) hB dc_B_ranked_18 rfl rfl 1 rfl ?_
  refine f_B_desk (pc' := 22) hB dc_B_ranked_19 rfl q_103 ?_
  refine y_aload (pc' := 24) hB dc_B_ranked_22 rfl 0 rfl ?_
  refine y_callV (c := 2 + 4) (ci := 1) (As := [.ref (o.G.ad (2 + k))]) (rest := []) (pc' := 27) hB hE (ct_R_becomeLike o.l o.G (yj S od false) 4 (by decide) k hk6 n hn ((yj_n S od false hk6).trans hc)) mm_R_becomeLike q_310 q_311 q_312 (by unfold yN; omega) (yk_row (by omega)).1 rfl dc_B_ranked_24 rfl (by decide) rfl rfl (Nat.le_of_ble_eq_true rfl) (fun v S' hpost => ?_)
  obtain ⟨rfl, hSS⟩ := hpost
  rw [hSS]
  clear hSS S'
  show yW o (yD (yj S od false) k n) 27 [(4, .ref (o.G.ad (2 + k))), (0, .ref (o.G.ad (0))), (1, .int (nI (k))), (2, .int (nI (od))), (3, .int (nI (i)))] []
  refine y_aload_n (pc' := 28) hB dc_B_ranked_27 rfl rfl 1 rfl ?_
  refine f_B_desk (pc' := 31) hB dc_B_ranked_28 rfl q_103 ?_
  refine y_aload_n (pc' := 32) hB dc_B_ranked_31 rfl rfl 1 rfl ?_
  refine f_B_spare (pc' := 35) hB dc_B_ranked_32 rfl q_104 ?_
  refine y_aload_n (pc' := 36) hB dc_B_ranked_35 rfl rfl 1 rfl ?_
  refine f_B_judge (pc' := 39) hB dc_B_ranked_36 rfl q_105 ?_
  refine y_callS (As := [.ref (o.G.ad (2 + 4)), .ref (o.G.ad (2 + 5)), .ref (o.G.ad (20))]) (rest := []) (pc' := 42) hB hE (ct_Me_arrange o.l o.G (yD (yj S od false) k n) od false 0 (yD_J (yj_J S false ho)) 4 (by decide) 5 (by decide) (by decide) n hn (yD_n _ k n) (zdb n) (zdb_pow hn)) mm_Me_arrange q_439 q_440 dc_B_ranked_39 rfl (by decide) rfl rfl (Nat.le_of_ble_eq_true rfl) (fun v S' hpost => ?_)
  obtain ⟨f3, g3, c3, rfl, rfl, m1, m2, m3, m4⟩ := hpost
  rw [yD_zs] at m2 ⊢
  show yW o (yq (yz (yz (yD (yj S od false) k n) 4 f3) 5 g3) c3) 42 [(4, .ref (o.G.ad (2 + k))), (0, .ref (o.G.ad (0))), (1, .int (nI (k))), (2, .int (nI (od))), (3, .int (nI (i)))] [.int (nI (zj (zq od false) (zs (ye (yj S od false) k) 0 n)))]
  have hU : yU S (yq (yz (yz (yD (yj S od false) k n) 4 f3) 5 g3) c3) := ((((yU_yj S od false).tr (yD_U _ k n)).tr (yU_yz _ (Or.inl rfl) f3)).tr (yU_yz _ (Or.inr rfl) g3)).tr (yU_yq _ _)
  refine y_pop (pc' := 43) hB dc_B_ranked_42 rfl rfl ?_
  refine y_aload_n (pc' := 44) hB dc_B_ranked_43 rfl rfl 1 rfl ?_
  refine f_B_desk (pc' := 47) hB dc_B_ranked_44 rfl q_103 ?_
  refine f_tags (r := 4) (pc' := 50) hB dc_B_ranked_47 rfl (by omega) q_49 ?_
  refine y_iload_n (pc' := 51) hB dc_B_ranked_50 rfl rfl 4 rfl ?_
  refine y_iald (c := 14 + 4) (n := 1024) (j := i) (pc' := 52) hB dc_B_ranked_51 rfl (by unfold yN; omega) (yk_row (by omega)).2.2 (by omega) (by decide) ?_
  refine y_iret hB hE dc_B_ranked_52 ⟨f3, ?_, hU, zt_of m1 m2⟩
  show some (Value.int (ye (yz (yz (yD (yj S od false) k n) 4 f3) 5 g3) 4 i).2) = _
  rw [ye_yz_ne _ _ (by decide), ye_yz]
set_option maxHeartbeats 4000000 in
set_option maxRecDepth 100000 in
theorem ct_B_merge (l : Launch) (g : YG) (S : YS) (k q p n m : Nat) (hk : k < 4) (hq : q < 4) (hp : p < 4) (hn : n ≤ 1024) (hm2 : m ≤ 1024) (hc : gF S (2 + k) 2 = nI n) (hd : gF S (2 + q) 2 = nI m) (hnm : n + m ≤ 1024) (od : Nat) (ho : od < 8) (s1 : zo (zq od false) (zs (ye S k) 0 n)) (s2 : zo (zq od false) (zs (ye S q) 0 m)) : yC l mn_B_merge mb_B_merge 10 (some .int) 7 g [.ref (g.ad (0)), .int (nI (k)), .int (nI (q)), .int (nI (p)), .int (nI (od))] S (fun v S' => ∃ f', v = some (.int (nI (n + m))) ∧ yU (sF (yz S p f') (2 + p) 2 (nI (n + m))) S' ∧ zs f' 0 (n + m) = zt (zq od false) (zs (ye S k) 0 n ++ zs (ye S q) 0 m)) := by
  refine yC_of (by decide) (Nat.le_of_ble_eq_true rfl) ?_
  intro o hl hg hB0 hE
  subst hl
  subst hg
  have hB : yB o mb_B_merge "OrderBench" := hB0
  have hm := hE.1
  show yW o (S) 0 [(0, .ref (o.G.ad (0))), (1, .int (nI (k))), (2, .int (nI (q))), (3, .int (nI (p))), (4, .int (nI (od)))] []
  have hk6 : k < 6 := by omega
  have hq6 : q < 6 := by omega
  have hp6 : p < 6 := by omega
  refine y_aload_n (pc' := 1) hB dc_B_merge_0 rfl rfl 0 rfl ?_
  refine y_iload_n (pc' := 2) hB dc_B_merge_1 rfl rfl 1 rfl ?_
  refine y_callV (c := 0) (ci := 0) (As := [.int (nI (k))]) (rest := []) (pc' := 5) hB hE (ct_B_rowAt o.l o.G (S) k hk) mm_B_rowAt q_137 q_139 qs_0 (by decide) rfl rfl dc_B_merge_2 rfl (by decide) rfl rfl (Nat.le_of_ble_eq_true rfl) (fun v S' hpost => ?_)
  obtain ⟨rfl, hSS⟩ := hpost
  rw [hSS]
  clear hSS S'
  show yW o (S) 5 [(0, .ref (o.G.ad (0))), (1, .int (nI (k))), (2, .int (nI (q))), (3, .int (nI (p))), (4, .int (nI (od)))] [.ref (o.G.ad (2 + k))]
  refine y_astore (pc' := 7) (lv' := [(5, .ref (o.G.ad (2 + k))), (0, .ref (o.G.ad (0))), (1, .int (nI (k))), (2, .int (nI (q))), (3, .int (nI (p))), (4, .int (nI (od)))]) hB hm dc_B_merge_5 rfl (by decide) rfl ?_
  refine y_aload_n (pc' := 8) hB dc_B_merge_7 rfl rfl 1 rfl ?_
  refine y_iload_n (pc' := 9) hB dc_B_merge_8 rfl rfl 3 rfl ?_
  refine y_callV (c := 0) (ci := 0) (As := [.int (nI (q))]) (rest := []) (pc' := 12) hB hE (ct_B_rowAt o.l o.G (S) q hq) mm_B_rowAt q_137 q_139 qs_0 (by decide) rfl rfl dc_B_merge_9 rfl (by decide) rfl rfl (Nat.le_of_ble_eq_true rfl) (fun v S' hpost => ?_)
  obtain ⟨rfl, hSS⟩ := hpost
  rw [hSS]
  clear hSS S'
  show yW o (S) 12 [(5, .ref (o.G.ad (2 + k))), (0, .ref (o.G.ad (0))), (1, .int (nI (k))), (2, .int (nI (q))), (3, .int (nI (p))), (4, .int (nI (od)))] [.ref (o.G.ad (2 + q))]
  refine y_astore (pc' := 14) (lv' := [(6, .ref (o.G.ad (2 + q))), (5, .ref (o.G.ad (2 + k))), (0, .ref (o.G.ad (0))), (1, .int (nI (k))), (2, .int (nI (q))), (3, .int (nI (p))), (4, .int (nI (od)))]) hB hm dc_B_merge_12 rfl (by decide) rfl ?_
  refine y_aload_n (pc' := 15) hB dc_B_merge_14 rfl rfl 2 rfl ?_
  refine y_iload_n (pc' := 16) hB dc_B_merge_15 rfl rfl 5 rfl ?_
  refine y_callV (c := 0) (ci := 0) (As := [.int (nI (p))]) (rest := []) (pc' := 19) hB hE (ct_B_rowAt o.l o.G (S) p hp) mm_B_rowAt q_137 q_139 qs_0 (by decide) rfl rfl dc_B_merge_16 rfl (by decide) rfl rfl (Nat.le_of_ble_eq_true rfl) (fun v S' hpost => ?_)
  obtain ⟨rfl, hSS⟩ := hpost
  rw [hSS]
  clear hSS S'
  show yW o (S) 19 [(6, .ref (o.G.ad (2 + q))), (5, .ref (o.G.ad (2 + k))), (0, .ref (o.G.ad (0))), (1, .int (nI (k))), (2, .int (nI (q))), (3, .int (nI (p))), (4, .int (nI (od)))] [.ref (o.G.ad (2 + p))]
  refine y_astore (pc' := 21) (lv' := [(7, .ref (o.G.ad (2 + p))), (6, .ref (o.G.ad (2 + q))), (5, .ref (o.G.ad (2 + k))), (0, .ref (o.G.ad (0))), (1, .int (nI (k))), (2, .int (nI (q))), (3, .int (nI (p))), (4, .int (nI (od)))]) hB hm dc_B_merge_19 rfl (by decide) rfl ?_
  refine y_aload_n (pc' := 22) hB dc_B_merge_21 rfl rfl 3 rfl ?_
  refine y_iload (pc' := 24) hB dc_B_merge_22 rfl 7 rfl ?_
  refine y_callV (c := 0) (ci := 0) (As := [.int (nI (od))]) (rest := []) (pc' := 27) hB hE (ct_B_judgeBy o.l o.G S od ho) mm_B_judgeBy q_540 q_542 qs_8 (by decide) rfl rfl dc_B_merge_24 rfl (by decide) rfl rfl (Nat.le_of_ble_eq_true rfl) (fun v S' hpost => ?_)
  obtain ⟨rfl, hSS⟩ := hpost
  rw [hSS]
  clear hSS S'
  show yW o (yj S od false) 27 [(7, .ref (o.G.ad (2 + p))), (6, .ref (o.G.ad (2 + q))), (5, .ref (o.G.ad (2 + k))), (0, .ref (o.G.ad (0))), (1, .int (nI (k))), (2, .int (nI (q))), (3, .int (nI (p))), (4, .int (nI (od)))] []
  refine y_aload_n (pc' := 28) hB dc_B_merge_27 rfl rfl 3 rfl ?_
  refine y_aload (pc' := 30) hB dc_B_merge_28 rfl 2 rfl ?_
  refine y_callV (c := 0) (ci := 0) (As := [.ref (o.G.ad (2 + k))]) (rest := []) (pc' := 33) hB hE (ct_B_checkInOrder o.l o.G (yj S od false) od false 0 (yj_J S false ho) k hk6 n hn ((yj_n S od false hk6).trans hc) s1) mm_B_checkInOrder q_589 q_591 qs_10 (by decide) rfl rfl dc_B_merge_30 rfl (by decide) rfl rfl (Nat.le_of_ble_eq_true rfl) (fun v S' hpost => ?_)
  obtain ⟨c1, rfl, rfl⟩ := hpost
  show yW o (yq (yj S od false) c1) 33 [(7, .ref (o.G.ad (2 + p))), (6, .ref (o.G.ad (2 + q))), (5, .ref (o.G.ad (2 + k))), (0, .ref (o.G.ad (0))), (1, .int (nI (k))), (2, .int (nI (q))), (3, .int (nI (p))), (4, .int (nI (od)))] []
  refine y_aload_n (pc' := 34) hB dc_B_merge_33 rfl rfl 3 rfl ?_
  refine y_aload (pc' := 36) hB dc_B_merge_34 rfl 1 rfl ?_
  refine y_callV (c := 0) (ci := 0) (As := [.ref (o.G.ad (2 + q))]) (rest := []) (pc' := 39) hB hE (ct_B_checkInOrder o.l o.G (yq (yj S od false) c1) od false c1 (yJ_yq (yj_J S false ho) c1) q hq6 m hm2 ((gF_yq (yj S od false) c1 q hq6).trans ((yj_n S od false hq6).trans hd)) s2) mm_B_checkInOrder q_589 q_591 qs_10 (by decide) rfl rfl dc_B_merge_36 rfl (by decide) rfl rfl (Nat.le_of_ble_eq_true rfl) (fun v S' hpost => ?_)
  obtain ⟨c2, rfl, rfl⟩ := hpost
  rw [yq_yq]
  show yW o (yq (yj S od false) c2) 39 [(7, .ref (o.G.ad (2 + p))), (6, .ref (o.G.ad (2 + q))), (5, .ref (o.G.ad (2 + k))), (0, .ref (o.G.ad (0))), (1, .int (nI (k))), (2, .int (nI (q))), (3, .int (nI (p))), (4, .int (nI (od)))] []
  have e1 : gF (yq (yj S od false) c2) (2 + k) 2 = nI n := (gF_yq (yj S od false) c2 k hk6).trans ((yj_n S od false hk6).trans hc)
  have e2 : gF (yq (yj S od false) c2) (2 + q) 2 = nI m := (gF_yq (yj S od false) c2 q hq6).trans ((yj_n S od false hq6).trans hd)
  refine y_aload (pc' := 41) hB dc_B_merge_39 rfl 2 rfl ?_
  refine f_count (r := k) (pc' := 44) hB dc_B_merge_41 rfl (by omega) q_53 ?_
  refine y_topi (y := nI (n)) e1 ?_
  refine y_istore (pc' := 46) (lv' := [(8, .int (nI (n))), (7, .ref (o.G.ad (2 + p))), (6, .ref (o.G.ad (2 + q))), (5, .ref (o.G.ad (2 + k))), (0, .ref (o.G.ad (0))), (1, .int (nI (k))), (2, .int (nI (q))), (3, .int (nI (p))), (4, .int (nI (od)))]) hB hm dc_B_merge_44 rfl (by decide) rfl ?_
  refine y_iload (pc' := 48) hB dc_B_merge_46 rfl 0 rfl ?_
  refine y_aload (pc' := 50) hB dc_B_merge_48 rfl 2 rfl ?_
  refine f_count (r := q) (pc' := 53) hB dc_B_merge_50 rfl (by omega) q_53 ?_
  refine y_topi (y := nI (m)) e2 ?_
  refine n_iadd (x := n) (y := m) (pc' := 54) hB dc_B_merge_53 rfl ?_
  refine y_istore (pc' := 56) (lv' := [(9, .int (nI (n + m))), (8, .int (nI (n))), (7, .ref (o.G.ad (2 + p))), (6, .ref (o.G.ad (2 + q))), (5, .ref (o.G.ad (2 + k))), (0, .ref (o.G.ad (0))), (1, .int (nI (k))), (2, .int (nI (q))), (3, .int (nI (p))), (4, .int (nI (od)))]) hB hm dc_B_merge_54 rfl (by decide) rfl ?_
  refine y_iload (pc' := 58) hB dc_B_merge_56 rfl 0 rfl ?_
  refine y_sipush (v := nI 1024) (pc' := 61) hB dc_B_merge_58 rfl (by decide) ?_
  refine n_icmp_le (pc' := 64) (tg := 74) hB dc_B_merge_61 rfl rfl (by omega) (by omega) (fun b1 => ?_) (fun b1 => ?_)
  · refine y_aload_n (pc' := 75) hB dc_B_merge_74 rfl rfl 5 rfl ?_
    refine f_B_spare (pc' := 78) hB dc_B_merge_75 rfl q_104 ?_
    refine y_iconst (v := nI 0) (pc' := 79) hB dc_B_merge_78 rfl rfl ?_
    refine y_aload (pc' := 81) hB dc_B_merge_79 rfl 4 rfl ?_
    refine y_iconst (v := nI 0) (pc' := 82) hB dc_B_merge_81 rfl rfl ?_
    refine y_iload (pc' := 84) hB dc_B_merge_82 rfl 1 rfl ?_
    refine y_callV (c := 2 + 5) (ci := 1) (As := [.int (nI (0)), .ref (o.G.ad (2 + k)), .int (nI (0)), .int (nI (n))]) (rest := []) (pc' := 87) hB hE (ct_R_takeMany o.l o.G (yq (yj S od false) c2) 5 (by decide) k hk6 0 0 n (by omega) (by omega)) mm_R_takeMany q_602 q_315 q_316 (by unfold yN; omega) (yk_row (by omega)).1 rfl dc_B_merge_84 rfl (by decide) rfl rfl (Nat.le_of_ble_eq_true rfl) (fun v S' hpost => ?_)
    obtain ⟨rfl, hSS⟩ := hpost
    rw [hSS]
    clear hSS S'
    show yW o (yz (yq (yj S od false) c2) 5 (va_cpy (ye (yq (yj S od false) c2) k) (ye (yq (yj S od false) c2) 5) 0 0 n)) 87 [(9, .int (nI (n + m))), (8, .int (nI (n))), (7, .ref (o.G.ad (2 + p))), (6, .ref (o.G.ad (2 + q))), (5, .ref (o.G.ad (2 + k))), (0, .ref (o.G.ad (0))), (1, .int (nI (k))), (2, .int (nI (q))), (3, .int (nI (p))), (4, .int (nI (od)))] []
    obtain ⟨A, hA⟩ : ∃ z, z = va_cpy (ye (yq (yj S od false) c2) k) (ye (yq (yj S od false) c2) 5) 0 0 n := ⟨_, rfl⟩
    rw [← hA]
    refine y_aload_n (pc' := 88) hB dc_B_merge_87 rfl rfl 5 rfl ?_
    refine f_B_spare (pc' := 91) hB dc_B_merge_88 rfl q_104 ?_
    refine y_iload (pc' := 93) hB dc_B_merge_91 rfl 1 rfl ?_
    refine y_aload (pc' := 95) hB dc_B_merge_93 rfl 3 rfl ?_
    refine y_iconst (v := nI 0) (pc' := 96) hB dc_B_merge_95 rfl rfl ?_
    refine y_aload (pc' := 98) hB dc_B_merge_96 rfl 3 rfl ?_
    refine f_count (r := q) (pc' := 101) hB dc_B_merge_98 rfl (by omega) q_53 ?_
    refine y_topi (y := nI (m)) e2 ?_
    refine y_callV (c := 2 + 5) (ci := 1) (As := [.int (nI (n)), .ref (o.G.ad (2 + q)), .int (nI (0)), .int (nI (m))]) (rest := []) (pc' := 104) hB hE (ct_R_takeMany o.l o.G (yz (yq (yj S od false) c2) 5 A) 5 (by decide) q hq6 n 0 m (by omega) (by omega)) mm_R_takeMany q_602 q_315 q_316 (by unfold yN; omega) (yk_row (by omega)).1 rfl dc_B_merge_101 rfl (by decide) rfl rfl (Nat.le_of_ble_eq_true rfl) (fun v S' hpost => ?_)
    obtain ⟨rfl, hSS⟩ := hpost
    rw [hSS]
    clear hSS S'
    show yW o (yz (yz (yq (yj S od false) c2) 5 A) 5 (va_cpy (ye (yz (yq (yj S od false) c2) 5 A) q) (ye (yz (yq (yj S od false) c2) 5 A) 5) 0 n m)) 104 [(9, .int (nI (n + m))), (8, .int (nI (n))), (7, .ref (o.G.ad (2 + p))), (6, .ref (o.G.ad (2 + q))), (5, .ref (o.G.ad (2 + k))), (0, .ref (o.G.ad (0))), (1, .int (nI (k))), (2, .int (nI (q))), (3, .int (nI (p))), (4, .int (nI (od)))] []
    obtain ⟨A2, hA2⟩ : ∃ z, z = va_cpy (ye S q) A 0 n m := ⟨_, rfl⟩
    rw [ye_yz, show ye (yz (yq (yj S od false) c2) 5 A) q = ye S q from ye_yz_ne (yq (yj S od false) c2) A (show q ≠ 5 by omega), ← hA2, yz_yz]
    have z1 : ∀ j, j < n → A2 j = ye S k j := fun j hj => by rw [hA2, pk_cpy_out (Or.inl hj), hA, pk_cpy_in (by omega) (by omega), Nat.zero_add, Nat.sub_zero]; rfl
    have z2 : ∀ j, n ≤ j → j < n + m → A2 j = ye S q (j - n) := fun j h1 h2 => by rw [hA2, pk_cpy_in h1 h2, Nat.zero_add]
    have z3 : zs A2 0 (n + m) = zs (ye S k) 0 n ++ zs (ye S q) 0 m := by
      rw [zs_add, Nat.zero_add]
      congr 1
      · exact zs_congr (fun j hj => by rw [Nat.zero_add]; exact z1 j hj)
      · exact zs_congr (fun j hj => by rw [z2 _ (by omega) (by omega), Nat.add_sub_cancel_left, Nat.zero_add])
    have hy5 : ye (yz (yq (yj S od false) c2) 5 A2) 5 = A2 := ye_yz _ 5 A2
    refine y_aload_n (pc' := 105) hB dc_B_merge_104 rfl rfl 5 rfl ?_
    refine f_B_spare (pc' := 108) hB dc_B_merge_105 rfl q_104 ?_
    refine y_iconst (v := nI 0) (pc' := 109) hB dc_B_merge_108 rfl rfl ?_
    refine y_iload (pc' := 111) hB dc_B_merge_109 rfl 1 rfl ?_
    refine y_iload (pc' := 113) hB dc_B_merge_111 rfl 0 rfl ?_
    refine y_aload (pc' := 115) hB dc_B_merge_113 rfl 2 rfl ?_
    refine y_aload_n (pc' := 116) hB dc_B_merge_115 rfl rfl 5 rfl ?_
    refine f_B_judge (pc' := 119) hB dc_B_merge_116 rfl q_105 ?_
    refine y_callS (As := [.ref (o.G.ad (2 + 5)), .int (nI (0)), .int (nI (n)), .int (nI (n + m)), .ref (o.G.ad (2 + p)), .ref (o.G.ad (20))]) (rest := []) (pc' := 122) hB hE (ct_Me_join o.l o.G (yz (yq (yj S od false) c2) 5 A2) od false c2 (yJ_yz (yJ_yq (yj_J S false ho) c2) 5 A2) p hp6 5 (by decide) (by omega) 0 n (n + m) (by omega) (by omega) hnm (by rw [hy5]; intro i j h1 h2 h3; rw [z1 i (by omega), z1 j h3]; have hz := zo_zs.mp s1 i j h2 h3; rwa [Nat.zero_add, Nat.zero_add] at hz) (by rw [hy5]; intro i j h1 h2 h3; rw [z2 i h1 (by omega), z2 j (by omega) h3]; have hz := zo_zs.mp s2 (i - n) (j - n) (by omega) (by omega); rwa [Nat.zero_add, Nat.zero_add] at hz)) mm_Me_join q_603 q_446 dc_B_merge_119 rfl (by decide) rfl rfl (Nat.le_of_ble_eq_true rfl) (fun v S' hpost => ?_)
    obtain ⟨f3, c3, rfl, rfl, m1, m2, m3, m4⟩ := hpost
    rw [Nat.sub_zero] at m2 m3
    rw [hy5, z3] at m3
    show yW o (yq (yz (yz (yq (yj S od false) c2) 5 A2) p f3) c3) 122 [(9, .int (nI (n + m))), (8, .int (nI (n))), (7, .ref (o.G.ad (2 + p))), (6, .ref (o.G.ad (2 + q))), (5, .ref (o.G.ad (2 + k))), (0, .ref (o.G.ad (0))), (1, .int (nI (k))), (2, .int (nI (q))), (3, .int (nI (p))), (4, .int (nI (od)))] [.int (nI (zc (zq od false) (zs (ye (yz (yq (yj S od false) c2) 5 A2) 5) 0 (n - 0)) (zs (ye (yz (yq (yj S od false) c2) 5 A2) 5) n (n + m - n))))]
    refine y_pop (pc' := 123) hB dc_B_merge_122 rfl rfl ?_
    refine y_aload (pc' := 125) hB dc_B_merge_123 rfl 2 rfl ?_
    refine y_iload (pc' := 127) hB dc_B_merge_125 rfl 0 rfl ?_
    refine p_count (r := p) (pc' := 130) hB dc_B_merge_127 rfl (by omega) q_53 ?_
    refine y_iload (pc' := 132) hB dc_B_merge_130 rfl 0 rfl ?_
    refine y_iret hB hE dc_B_merge_132 ⟨f3, rfl, yU.F ?_ _ _ _, zt_of m2 m3⟩
    exact ((((yU_yj S od false).tr (yU_yq _ c2)).tr (yU_yz _ (Or.inr rfl) A2)).z hp f3).tr (yU_yq _ _)
  · omega
