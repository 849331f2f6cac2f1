/-! REFERENCE: sort -/
theorem dc_M_sort_0 : decode mb_M_sort 0 = .ok (.aload_n 0, 1) := by decide +kernel
theorem dc_M_sort_1 : decode mb_M_sort 1 = .ok (.iload_n 1, 1) := by decide +kernel
theorem dc_M_sort_2 : decode mb_M_sort 2 = .ok (.invokevirtual 56, 3) := by decide +kernel
theorem dc_M_sort_5 : decode mb_M_sort 5 = .ok (.ifCond .ne 11, 3) := by decide +kernel
theorem dc_M_sort_8 : decode mb_M_sort 8 = .ok (.aload_n 0, 1) := by decide +kernel
theorem dc_M_sort_9 : decode mb_M_sort 9 = .ok (.iload_n 3, 1) := by decide +kernel
theorem dc_M_sort_10 : decode mb_M_sort 10 = .ok (.invokevirtual 81, 3) := by decide +kernel
theorem dc_M_sort_13 : decode mb_M_sort 13 = .ok (.ifCond .eq 4, 3) := by decide +kernel
theorem dc_M_sort_16 : decode mb_M_sort 16 = .ok (.return_, 1) := by decide +kernel
theorem dc_M_sort_17 : decode mb_M_sort 17 = .ok (.iload_n 3, 1) := by decide +kernel
theorem dc_M_sort_18 : decode mb_M_sort 18 = .ok (.iconst 3, 1) := by decide +kernel
theorem dc_M_sort_19 : decode mb_M_sort 19 = .ok (.if_icmp .lt 8, 3) := by decide +kernel
theorem dc_M_sort_22 : decode mb_M_sort 22 = .ok (.iload_n 3, 1) := by decide +kernel
theorem dc_M_sort_23 : decode mb_M_sort 23 = .ok (.iconst 5, 1) := by decide +kernel
theorem dc_M_sort_24 : decode mb_M_sort 24 = .ok (.if_icmp .ne 7, 3) := by decide +kernel
theorem dc_M_sort_27 : decode mb_M_sort 27 = .ok (.iconst 1, 1) := by decide +kernel
theorem dc_M_sort_28 : decode mb_M_sort 28 = .ok (.goto 4, 3) := by decide +kernel
theorem dc_M_sort_31 : decode mb_M_sort 31 = .ok (.iconst 0, 1) := by decide +kernel
theorem dc_M_sort_32 : decode mb_M_sort 32 = .ok (.istore 4, 2) := by decide +kernel
theorem dc_M_sort_34 : decode mb_M_sort 34 = .ok (.aload_n 0, 1) := by decide +kernel
theorem dc_M_sort_35 : decode mb_M_sort 35 = .ok (.iload_n 2, 1) := by decide +kernel
theorem dc_M_sort_36 : decode mb_M_sort 36 = .ok (.ifCond .lt 20, 3) := by decide +kernel
theorem dc_M_sort_39 : decode mb_M_sort 39 = .ok (.iload_n 2, 1) := by decide +kernel
theorem dc_M_sort_40 : decode mb_M_sort 40 = .ok (.bipush 6, 2) := by decide +kernel
theorem dc_M_sort_42 : decode mb_M_sort 42 = .ok (.if_icmp .gt 14, 3) := by decide +kernel
theorem dc_M_sort_45 : decode mb_M_sort 45 = .ok (.iload_n 2, 1) := by decide +kernel
theorem dc_M_sort_46 : decode mb_M_sort 46 = .ok (.bipush 6, 2) := by decide +kernel
theorem dc_M_sort_48 : decode mb_M_sort 48 = .ok (.if_icmp .ne 12, 3) := by decide +kernel
theorem dc_M_sort_51 : decode mb_M_sort 51 = .ok (.iload 4, 2) := by decide +kernel
theorem dc_M_sort_53 : decode mb_M_sort 53 = .ok (.ifCond .ne 7, 3) := by decide +kernel
theorem dc_M_sort_56 : decode mb_M_sort 56 = .ok (.iconst 2, 1) := by decide +kernel
theorem dc_M_sort_57 : decode mb_M_sort 57 = .ok (.goto 4, 3) := by decide +kernel
theorem dc_M_sort_60 : decode mb_M_sort 60 = .ok (.iconst 0, 1) := by decide +kernel
theorem dc_M_sort_61 : decode mb_M_sort 61 = .ok (.putfield 29, 3) := by decide +kernel
theorem dc_M_sort_64 : decode mb_M_sort 64 = .ok (.aload_n 0, 1) := by decide +kernel
theorem dc_M_sort_65 : decode mb_M_sort 65 = .ok (.getfield 29, 3) := by decide +kernel
theorem dc_M_sort_68 : decode mb_M_sort 68 = .ok (.ifCond .le 4, 3) := by decide +kernel
theorem dc_M_sort_71 : decode mb_M_sort 71 = .ok (.return_, 1) := by decide +kernel
theorem dc_M_sort_72 : decode mb_M_sort 72 = .ok (.aload_n 0, 1) := by decide +kernel
theorem dc_M_sort_73 : decode mb_M_sort 73 = .ok (.invokevirtual 84, 3) := by decide +kernel
theorem dc_M_sort_76 : decode mb_M_sort 76 = .ok (.aload_n 0, 1) := by decide +kernel
theorem dc_M_sort_77 : decode mb_M_sort 77 = .ok (.iload_n 1, 1) := by decide +kernel
theorem dc_M_sort_78 : decode mb_M_sort 78 = .ok (.iload_n 3, 1) := by decide +kernel
theorem dc_M_sort_79 : decode mb_M_sort 79 = .ok (.iload_n 2, 1) := by decide +kernel
theorem dc_M_sort_80 : decode mb_M_sort 80 = .ok (.ifCond .eq 8, 3) := by decide +kernel
theorem dc_M_sort_83 : decode mb_M_sort 83 = .ok (.iload_n 2, 1) := by decide +kernel
theorem dc_M_sort_84 : decode mb_M_sort 84 = .ok (.iconst 3, 1) := by decide +kernel
theorem dc_M_sort_85 : decode mb_M_sort 85 = .ok (.if_icmp .le 7, 3) := by decide +kernel
theorem dc_M_sort_88 : decode mb_M_sort 88 = .ok (.iconst 1, 1) := by decide +kernel
theorem dc_M_sort_89 : decode mb_M_sort 89 = .ok (.goto 4, 3) := by decide +kernel
theorem dc_M_sort_92 : decode mb_M_sort 92 = .ok (.iconst 0, 1) := by decide +kernel
theorem dc_M_sort_93 : decode mb_M_sort 93 = .ok (.invokevirtual 87, 3) := by decide +kernel
theorem dc_M_sort_96 : decode mb_M_sort 96 = .ok (.aload_n 0, 1) := by decide +kernel
theorem dc_M_sort_97 : decode mb_M_sort 97 = .ok (.iload_n 1, 1) := by decide +kernel
theorem dc_M_sort_98 : decode mb_M_sort 98 = .ok (.invokevirtual 91, 3) := by decide +kernel
theorem dc_M_sort_101 : decode mb_M_sort 101 = .ok (.return_, 1) := by decide +kernel
set_option maxHeartbeats 4000000 in
set_option maxRecDepth 100000 in
theorem ct_M_sort (l : Launch) (g : YG) (S : YS) (k n : Nat) (hk : k < 4) (hn : n ≤ 1024) (hc : gI S 27 k = nI n) (wy od : Nat) (hw : wy < 7) (ho : od < 8) (h6 : wy = 6 → od = 0 ∨ od = 1 ∨ od = 2 ∨ od = 5) : yC l mn_M_sort mb_M_sort 5 none 6 g [.ref (g.ad (24)), .int (nI (k)), .int (nI (wy)), .int (nI (od))] S (fun v S' => ∃ (f : Nat → Int64 × Int32) (K : Nat → Int64) (T : Nat → Int32), v = none ∧ S' = sI (mK (mW (yx S 0) f n) K T) 27 (upd (gI S 27) k (nI n)) ∧ zs f 0 n = zt (zq od (zun wy)) (zs (ze4 S k) 0 n) ∧ (∀ j, j < n → K (1024 * k + j) = (f j).1 ∧ T (1024 * k + j) = (f j).2) ∧ (∀ j, j < 1024 * k ∨ 1024 * k + n ≤ j → K j = gL S 25 j ∧ T j = gI S 26 j)) := by
  refine yC_of (by decide) (Nat.le_of_ble_eq_true rfl) ?_
  intro o hl hg hB0 hE
  subst hl
  subst hg
  have hB : yB o mb_M_sort "OrderBenchModel" := hB0
  have hm := hE.1
  show yW o (S) 0 [(0, .ref (o.G.ad (24))), (1, .int (nI (k))), (2, .int (nI (wy))), (3, .int (nI (od)))] []
  obtain ⟨f0, hf0⟩ : ∃ z, z = (fun j => (gL (yx S 0) 28 j, gI (yx S 0) 29 j)) := ⟨_, rfl⟩
  have fin : ∀ tg, tg = zun wy → yW o (mW (yx S 0) f0 0) 93 [(0, .ref (o.G.ad (24))), (1, .int (nI (k))), (2, .int (nI (wy))), (3, .int (nI (od)))] [.int (yb (!tg)), .int (nI (od)), .int (nI (k)), .ref (o.G.ad (24))] := by
    intro tg hg
    refine y_callV (c := 24) (ci := 4) (As := [.int (nI (k)), .int (nI (od)), .int (yb (!tg))]) (rest := []) (pc' := 96) hB hE (ct_M_placeAll o.l o.G (yx S 0) k n hk hn hc f0 0 (by omega) od ho tg (by rw [zs_zero]; exact List.Pairwise.nil)) mm_M_placeAll q_728 q_730 qs_16 (by decide) rfl rfl dc_M_sort_93 rfl (by decide) rfl rfl (Nat.le_of_ble_eq_true rfl) (fun v S' hpost => ?_)
    obtain ⟨f1, rfl, rfl, m1⟩ := hpost
    rw [Nat.zero_add, zs_zero, zpl_nil, hg] at m1
    rw [Nat.zero_add]
    show yW o (mW (yx S 0) f1 n) 96 [(0, .ref (o.G.ad (24))), (1, .int (nI (k))), (2, .int (nI (wy))), (3, .int (nI (od)))] []
    refine y_aload_n (pc' := 97) hB dc_M_sort_96 rfl rfl 0 rfl ?_
    refine y_iload_n (pc' := 98) hB dc_M_sort_97 rfl rfl 1 rfl ?_
    refine y_callV (c := 24) (ci := 4) (As := [.int (nI (k))]) (rest := []) (pc' := 101) hB hE (ct_M_give o.l o.G (yx S 0) k n hk hn f1) mm_M_give q_757 q_759 qs_19 (by decide) rfl rfl dc_M_sort_98 rfl (by decide) rfl rfl (Nat.le_of_ble_eq_true rfl) (fun v S' hpost => ?_)
    obtain ⟨K, T, rfl, rfl, m2, m3⟩ := hpost
    show yW o (sI (mK (mW (yx S 0) f1 n) K T) 27 (upd (gI (yx S 0) 27) k (nI n))) 101 [(0, .ref (o.G.ad (24))), (1, .int (nI (k))), (2, .int (nI (wy))), (3, .int (nI (od)))] []
    exact y_vret hB hE dc_M_sort_101 ⟨f1, K, T, rfl, rfl, m1, m2, m3⟩
  have mid : ∀ bt, yW o (yx S 0) 60 [(4, .int (nI (bt))), (0, .ref (o.G.ad (24))), (1, .int (nI (k))), (2, .int (nI (wy))), (3, .int (nI (od)))] [.ref (o.G.ad (24))] := by
    intro bt
    refine y_iconst (v := nI 0) (pc' := 61) hB dc_M_sort_60 rfl rfl ?_
    refine p_M_code (pc' := 64) hB dc_M_sort_61 rfl q_639 ?_
    show yW o (yx (yx S 0) 0) 64 [(4, .int (nI (bt))), (0, .ref (o.G.ad (24))), (1, .int (nI (k))), (2, .int (nI (wy))), (3, .int (nI (od)))] []
    rw [yx_yx]
    refine y_aload_n (pc' := 65) hB dc_M_sort_64 rfl rfl 1 rfl ?_
    refine f_M_code (pc' := 68) hB dc_M_sort_65 rfl q_639 ?_
    refine y_topi (y := nI (0)) (yx_c S 0) ?_
    refine n_if_le (pc' := 71) (tg := 72) hB dc_M_sort_68 rfl rfl (by omega) (fun b1 => ?_) (fun b1 => ?_)
    · refine y_aload_n (pc' := 73) hB dc_M_sort_72 rfl rfl 1 rfl ?_
      refine y_callV (c := 24) (ci := 4) (As := []) (rest := []) (pc' := 76) hB hE (ct_M_begin o.l o.G (yx S 0)) mm_M_begin q_724 q_726 qs_15 (by decide) rfl rfl dc_M_sort_73 rfl (by decide) rfl rfl (Nat.le_of_ble_eq_true rfl) (fun v S' hpost => ?_)
      obtain ⟨rfl, hSS⟩ := hpost
      rw [hSS]
      clear hSS S'
      show yW o (mW (yx S 0) (fun j => (gL (yx S 0) 28 j, gI (yx S 0) 29 j)) 0) 76 [(4, .int (nI (bt))), (0, .ref (o.G.ad (24))), (1, .int (nI (k))), (2, .int (nI (wy))), (3, .int (nI (od)))] []
      rw [← hf0]
      refine y_aload_n (pc' := 77) hB dc_M_sort_76 rfl rfl 1 rfl ?_
      refine y_iload_n (pc' := 78) hB dc_M_sort_77 rfl rfl 2 rfl ?_
      refine y_iload_n (pc' := 79) hB dc_M_sort_78 rfl rfl 4 rfl ?_
      refine y_iload_n (pc' := 80) hB dc_M_sort_79 rfl rfl 3 rfl ?_
      refine n_if_eq (pc' := 83) (tg := 88) hB dc_M_sort_80 rfl rfl (by omega) (fun b2 => ?_) (fun b2 => ?_)
      · refine y_iconst (v := nI 1) (pc' := 89) hB dc_M_sort_88 rfl rfl ?_
        refine y_goto (tg := 93) hB dc_M_sort_89 rfl ?_
        refine y_sub [1, 2, 3, 4] rfl ?_
        exact fin false (by unfold zun; rw [decide_eq_true (by omega)]; rfl)
      · refine y_iload_n (pc' := 84) hB dc_M_sort_83 rfl rfl 3 rfl ?_
        refine y_iconst (v := nI 3) (pc' := 85) hB dc_M_sort_84 rfl rfl ?_
        refine n_icmp_le (pc' := 88) (tg := 92) hB dc_M_sort_85 rfl rfl (by omega) (by omega) (fun b3 => ?_) (fun b3 => ?_)
        · refine y_iconst (v := nI 0) (pc' := 93) hB dc_M_sort_92 rfl rfl ?_
          refine y_sub [1, 2, 3, 4] rfl ?_
          exact fin true (by unfold zun; rw [decide_eq_false (by omega)]; rfl)
        · refine y_iconst (v := nI 1) (pc' := 89) hB dc_M_sort_88 rfl rfl ?_
          refine y_goto (tg := 93) hB dc_M_sort_89 rfl ?_
          refine y_sub [1, 2, 3, 4] rfl ?_
          exact fin false (by unfold zun; rw [decide_eq_true (by omega)]; rfl)
    · omega
  have go : ∀ bt, (bt = 0 ∨ bt = 1) → (wy = 6 → bt = 1) → yW o (yx S 0) 32 [(0, .ref (o.G.ad (24))), (1, .int (nI (k))), (2, .int (nI (wy))), (3, .int (nI (od)))] [.int (nI (bt))] := by
    intro bt q0 q1
    refine y_istore (pc' := 34) (lv' := [(4, .int (nI (bt))), (0, .ref (o.G.ad (24))), (1, .int (nI (k))), (2, .int (nI (wy))), (3, .int (nI (od)))]) hB hm dc_M_sort_32 rfl (by decide) rfl ?_
    refine y_aload_n (pc' := 35) hB dc_M_sort_34 rfl rfl 1 rfl ?_
    refine y_iload_n (pc' := 36) hB dc_M_sort_35 rfl rfl 3 rfl ?_
    refine n_if_lt (pc' := 39) (tg := 56) hB dc_M_sort_36 rfl rfl (by omega) ?_
    refine y_iload_n (pc' := 40) hB dc_M_sort_39 rfl rfl 3 rfl ?_
    refine y_bipush (v := nI 6) (pc' := 42) hB dc_M_sort_40 rfl (by decide) ?_
    refine n_icmp_gt (pc' := 45) (tg := 56) hB dc_M_sort_42 rfl rfl (by omega) (by omega) (fun b1 => ?_) (fun b1 => ?_)
    · omega
    · refine y_iload_n (pc' := 46) hB dc_M_sort_45 rfl rfl 3 rfl ?_
      refine y_bipush (v := nI 6) (pc' := 48) hB dc_M_sort_46 rfl (by decide) ?_
      refine n_icmp_ne (pc' := 51) (tg := 60) hB dc_M_sort_48 rfl rfl (by omega) (by omega) (fun b2 => ?_) (fun b2 => ?_)
      · exact mid bt
      · refine y_iload (pc' := 53) hB dc_M_sort_51 rfl 0 rfl ?_
        refine n_if_ne (pc' := 56) (tg := 60) hB dc_M_sort_53 rfl rfl (by omega) (fun b3 => ?_) (fun b3 => ?_)
        · exact mid bt
        · omega
  refine y_aload_n (pc' := 1) hB dc_M_sort_0 rfl rfl 0 rfl ?_
  refine y_iload_n (pc' := 2) hB dc_M_sort_1 rfl rfl 1 rfl ?_
  refine y_callV (c := 24) (ci := 4) (As := [.int (nI (k))]) (rest := []) (pc' := 5) hB hE (ct_M_noRow o.l o.G S (nI k) (zgr_of hk)) mm_M_noRow q_672 q_674 qs_12 (by decide) rfl rfl dc_M_sort_2 rfl (by decide) rfl rfl (Nat.le_of_ble_eq_true rfl) (fun v S' hpost => ?_)
  obtain ⟨rfl, hSS⟩ := hpost
  rw [hSS]
  clear hSS S'
  show yW o (yx S 0) 5 [(0, .ref (o.G.ad (24))), (1, .int (nI (k))), (2, .int (nI (wy))), (3, .int (nI (od)))] [.int (0)]
  refine y_if_ne (x := 0) (pc' := 8) (tg := 16) hB dc_M_sort_5 rfl rfl (fun c1 => ?_) (fun c1 => ?_)
  · exact absurd rfl c1
  · refine y_aload_n (pc' := 9) hB dc_M_sort_8 rfl rfl 0 rfl ?_
    refine y_iload_n (pc' := 10) hB dc_M_sort_9 rfl rfl 3 rfl ?_
    refine y_callV (c := 24) (ci := 4) (As := [.int (nI (od))]) (rest := []) (pc' := 13) hB hE (ct_M_noOrder o.l o.G (yx S 0) (nI od) (zgo_of ho)) mm_M_noOrder q_720 q_722 qs_14 (by decide) rfl rfl dc_M_sort_10 rfl (by decide) rfl rfl (Nat.le_of_ble_eq_true rfl) (fun v S' hpost => ?_)
    obtain ⟨rfl, hSS⟩ := hpost
    rw [hSS]
    clear hSS S'
    show yW o (yx (yx S 0) 0) 13 [(0, .ref (o.G.ad (24))), (1, .int (nI (k))), (2, .int (nI (wy))), (3, .int (nI (od)))] [.int (0)]
    rw [yx_yx]
    refine y_if_eq (x := 0) (pc' := 16) (tg := 17) hB dc_M_sort_13 rfl rfl (fun c2 => ?_) (fun c2 => ?_)
    · refine y_iload_n (pc' := 18) hB dc_M_sort_17 rfl rfl 3 rfl ?_
      refine y_iconst (v := nI 3) (pc' := 19) hB dc_M_sort_18 rfl rfl ?_
      refine n_icmp_lt (pc' := 22) (tg := 27) hB dc_M_sort_19 rfl rfl (by omega) (by omega) (fun c3 => ?_) (fun c3 => ?_)
      · refine y_iconst (v := nI 1) (pc' := 28) hB dc_M_sort_27 rfl rfl ?_
        refine y_goto (tg := 32) hB dc_M_sort_28 rfl ?_
        exact go 1 (by omega) (fun _ => rfl)
      · refine y_iload_n (pc' := 23) hB dc_M_sort_22 rfl rfl 3 rfl ?_
        refine y_iconst (v := nI 5) (pc' := 24) hB dc_M_sort_23 rfl rfl ?_
        refine n_icmp_ne (pc' := 27) (tg := 31) hB dc_M_sort_24 rfl rfl (by omega) (by omega) (fun c4 => ?_) (fun c4 => ?_)
        · refine y_iconst (v := nI 0) (pc' := 32) hB dc_M_sort_31 rfl rfl ?_
          exact go 0 (by omega) (fun z => by have := h6 z; omega)
        · refine y_iconst (v := nI 1) (pc' := 28) hB dc_M_sort_27 rfl rfl ?_
          refine y_goto (tg := 32) hB dc_M_sort_28 rfl ?_
          exact go 1 (by omega) (fun _ => rfl)
    · exact absurd rfl c2
