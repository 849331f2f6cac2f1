/-! REFERENCE: merge, cut -/
theorem dc_M_merge_0 : decode mb_M_merge 0 = .ok (.aload_n 0, 1) := by decide +kernel
theorem dc_M_merge_1 : decode mb_M_merge 1 = .ok (.iload_n 1, 1) := by decide +kernel
theorem dc_M_merge_2 : decode mb_M_merge 2 = .ok (.invokevirtual 56, 3) := by decide +kernel
theorem dc_M_merge_5 : decode mb_M_merge 5 = .ok (.ifCond .ne 28, 3) := by decide +kernel
theorem dc_M_merge_8 : decode mb_M_merge 8 = .ok (.aload_n 0, 1) := by decide +kernel
theorem dc_M_merge_9 : decode mb_M_merge 9 = .ok (.iload_n 2, 1) := by decide +kernel
theorem dc_M_merge_10 : decode mb_M_merge 10 = .ok (.invokevirtual 56, 3) := by decide +kernel
theorem dc_M_merge_13 : decode mb_M_merge 13 = .ok (.ifCond .ne 20, 3) := by decide +kernel
theorem dc_M_merge_16 : decode mb_M_merge 16 = .ok (.aload_n 0, 1) := by decide +kernel
theorem dc_M_merge_17 : decode mb_M_merge 17 = .ok (.iload_n 3, 1) := by decide +kernel
theorem dc_M_merge_18 : decode mb_M_merge 18 = .ok (.invokevirtual 56, 3) := by decide +kernel
theorem dc_M_merge_21 : decode mb_M_merge 21 = .ok (.ifCond .ne 12, 3) := by decide +kernel
theorem dc_M_merge_24 : decode mb_M_merge 24 = .ok (.aload_n 0, 1) := by decide +kernel
theorem dc_M_merge_25 : decode mb_M_merge 25 = .ok (.iload 4, 2) := by decide +kernel
theorem dc_M_merge_27 : decode mb_M_merge 27 = .ok (.invokevirtual 81, 3) := by decide +kernel
theorem dc_M_merge_30 : decode mb_M_merge 30 = .ok (.ifCond .eq 5, 3) := by decide +kernel
theorem dc_M_merge_33 : decode mb_M_merge 33 = .ok (.iconst 0, 1) := by decide +kernel
theorem dc_M_merge_34 : decode mb_M_merge 34 = .ok (.ireturn, 1) := by decide +kernel
theorem dc_M_merge_35 : decode mb_M_merge 35 = .ok (.aload_n 0, 1) := by decide +kernel
theorem dc_M_merge_36 : decode mb_M_merge 36 = .ok (.aload_n 0, 1) := by decide +kernel
theorem dc_M_merge_37 : decode mb_M_merge 37 = .ok (.iload_n 1, 1) := by decide +kernel
theorem dc_M_merge_38 : decode mb_M_merge 38 = .ok (.iload 4, 2) := by decide +kernel
theorem dc_M_merge_40 : decode mb_M_merge 40 = .ok (.invokevirtual 95, 3) := by decide +kernel
theorem dc_M_merge_43 : decode mb_M_merge 43 = .ok (.ifCond .eq 36, 3) := by decide +kernel
theorem dc_M_merge_46 : decode mb_M_merge 46 = .ok (.aload_n 0, 1) := by decide +kernel
theorem dc_M_merge_47 : decode mb_M_merge 47 = .ok (.iload_n 2, 1) := by decide +kernel
theorem dc_M_merge_48 : decode mb_M_merge 48 = .ok (.iload 4, 2) := by decide +kernel
theorem dc_M_merge_50 : decode mb_M_merge 50 = .ok (.invokevirtual 95, 3) := by decide +kernel
theorem dc_M_merge_53 : decode mb_M_merge 53 = .ok (.ifCond .eq 26, 3) := by decide +kernel
theorem dc_M_merge_56 : decode mb_M_merge 56 = .ok (.aload_n 0, 1) := by decide +kernel
theorem dc_M_merge_57 : decode mb_M_merge 57 = .ok (.getfield 17, 3) := by decide +kernel
theorem dc_M_merge_60 : decode mb_M_merge 60 = .ok (.iload_n 1, 1) := by decide +kernel
theorem dc_M_merge_61 : decode mb_M_merge 61 = .ok (.iaload, 1) := by decide +kernel
theorem dc_M_merge_62 : decode mb_M_merge 62 = .ok (.aload_n 0, 1) := by decide +kernel
theorem dc_M_merge_63 : decode mb_M_merge 63 = .ok (.getfield 17, 3) := by decide +kernel
theorem dc_M_merge_66 : decode mb_M_merge 66 = .ok (.iload_n 2, 1) := by decide +kernel
theorem dc_M_merge_67 : decode mb_M_merge 67 = .ok (.iaload, 1) := by decide +kernel
theorem dc_M_merge_68 : decode mb_M_merge 68 = .ok (.iadd, 1) := by decide +kernel
theorem dc_M_merge_69 : decode mb_M_merge 69 = .ok (.sipush 1024, 3) := by decide +kernel
theorem dc_M_merge_72 : decode mb_M_merge 72 = .ok (.if_icmp .gt 7, 3) := by decide +kernel
theorem dc_M_merge_75 : decode mb_M_merge 75 = .ok (.iconst 0, 1) := by decide +kernel
theorem dc_M_merge_76 : decode mb_M_merge 76 = .ok (.goto 4, 3) := by decide +kernel
theorem dc_M_merge_79 : decode mb_M_merge 79 = .ok (.iconst 3, 1) := by decide +kernel
theorem dc_M_merge_80 : decode mb_M_merge 80 = .ok (.putfield 29, 3) := by decide +kernel
theorem dc_M_merge_83 : decode mb_M_merge 83 = .ok (.aload_n 0, 1) := by decide +kernel
theorem dc_M_merge_84 : decode mb_M_merge 84 = .ok (.getfield 29, 3) := by decide +kernel
theorem dc_M_merge_87 : decode mb_M_merge 87 = .ok (.ifCond .le 5, 3) := by decide +kernel
theorem dc_M_merge_90 : decode mb_M_merge 90 = .ok (.iconst 0, 1) := by decide +kernel
theorem dc_M_merge_91 : decode mb_M_merge 91 = .ok (.ireturn, 1) := by decide +kernel
theorem dc_M_merge_92 : decode mb_M_merge 92 = .ok (.aload_n 0, 1) := by decide +kernel
theorem dc_M_merge_93 : decode mb_M_merge 93 = .ok (.invokevirtual 84, 3) := by decide +kernel
theorem dc_M_merge_96 : decode mb_M_merge 96 = .ok (.aload_n 0, 1) := by decide +kernel
theorem dc_M_merge_97 : decode mb_M_merge 97 = .ok (.iload_n 1, 1) := by decide +kernel
theorem dc_M_merge_98 : decode mb_M_merge 98 = .ok (.iload 4, 2) := by decide +kernel
theorem dc_M_merge_100 : decode mb_M_merge 100 = .ok (.iconst 1, 1) := by decide +kernel
theorem dc_M_merge_101 : decode mb_M_merge 101 = .ok (.invokevirtual 87, 3) := by decide +kernel
theorem dc_M_merge_104 : decode mb_M_merge 104 = .ok (.aload_n 0, 1) := by decide +kernel
theorem dc_M_merge_105 : decode mb_M_merge 105 = .ok (.iload_n 2, 1) := by decide +kernel
theorem dc_M_merge_106 : decode mb_M_merge 106 = .ok (.iload 4, 2) := by decide +kernel
theorem dc_M_merge_108 : decode mb_M_merge 108 = .ok (.iconst 1, 1) := by decide +kernel
theorem dc_M_merge_109 : decode mb_M_merge 109 = .ok (.invokevirtual 87, 3) := by decide +kernel
theorem dc_M_merge_112 : decode mb_M_merge 112 = .ok (.aload_n 0, 1) := by decide +kernel
theorem dc_M_merge_113 : decode mb_M_merge 113 = .ok (.iload_n 3, 1) := by decide +kernel
theorem dc_M_merge_114 : decode mb_M_merge 114 = .ok (.invokevirtual 91, 3) := by decide +kernel
theorem dc_M_merge_117 : decode mb_M_merge 117 = .ok (.aload_n 0, 1) := by decide +kernel
theorem dc_M_merge_118 : decode mb_M_merge 118 = .ok (.getfield 17, 3) := by decide +kernel
theorem dc_M_merge_121 : decode mb_M_merge 121 = .ok (.iload_n 3, 1) := by decide +kernel
theorem dc_M_merge_122 : decode mb_M_merge 122 = .ok (.iaload, 1) := by decide +kernel
theorem dc_M_merge_123 : decode mb_M_merge 123 = .ok (.ireturn, 1) := by decide +kernel
set_option maxHeartbeats 4000000 in
set_option maxRecDepth 100000 in
theorem ct_M_merge (l : Launch) (g : YG) (S : YS) (k q p n m : Nat) (hk : k < 4) (hq : q < 4) (hp : p < 4) (hn : n ≤ 1024) (hm2 : m ≤ 1024) (hc : gI S 27 k = nI n) (hc2 : gI S 27 q = nI m) (hnm : n + m ≤ 1024) (od : Nat) (ho : od < 8) (s1 : zo (zq od false) (zs (ze4 S k) 0 n)) (s2 : zo (zq od false) (zs (ze4 S q) 0 m)) : yC l mn_M_merge mb_M_merge 5 (some .int) 6 g [.ref (g.ad (24)), .int (nI (k)), .int (nI (q)), .int (nI (p)), .int (nI (od))] S (fun v S' => ∃ (f : Nat → Int64 × Int32) (K : Nat → Int64) (T : Nat → Int32), v = some (.int (nI (n + m))) ∧ S' = sI (mK (mW (yx S 0) f (n + m)) K T) 27 (upd (gI S 27) p (nI (n + m))) ∧ zs f 0 (n + m) = zt (zq od false) (zs (ze4 S k) 0 n ++ zs (ze4 S q) 0 m) ∧ (∀ j, j < n + m → K (1024 * p + j) = (f j).1 ∧ T (1024 * p + j) = (f j).2) ∧ (∀ j, j < 1024 * p ∨ 1024 * p + (n + m) ≤ j → K j = gL S 25 j ∧ T j = gI S 26 j)) := by
  refine yC_of (by decide) (Nat.le_of_ble_eq_true rfl) ?_
  intro o hl hg hB0 hE
  subst hl
  subst hg
  have hB : yB o mb_M_merge "OrderBenchModel" := hB0
  have hm := hE.1
  show yW o (S) 0 [(0, .ref (o.G.ad (24))), (1, .int (nI (k))), (2, .int (nI (q))), (3, .int (nI (p))), (4, .int (nI (od)))] []
  refine y_aload_n (pc' := 1) hB dc_M_merge_0 rfl rfl 0 rfl ?_
  refine y_iload_n (pc' := 2) hB dc_M_merge_1 rfl rfl 1 rfl ?_
  refine y_callV (c := 24) (ci := 4) (As := [.int (nI (k))]) (rest := []) (pc' := 5) hB hE (ct_M_noRow o.l o.G (S) (nI k) (zgr_of hk)) mm_M_noRow q_672 q_674 qs_12 (by decide) rfl rfl dc_M_merge_2 rfl (by decide) rfl rfl (Nat.le_of_ble_eq_true rfl) (fun v S' hpost => ?_)
  obtain ⟨rfl, hSS⟩ := hpost
  rw [hSS]
  clear hSS S'
  show yW o (yx (S) 0) 5 [(0, .ref (o.G.ad (24))), (1, .int (nI (k))), (2, .int (nI (q))), (3, .int (nI (p))), (4, .int (nI (od)))] [.int (0)]
  refine y_if_ne (x := 0) (pc' := 8) (tg := 33) hB dc_M_merge_5 rfl rfl (fun c1 => ?_) (fun c1 => ?_)
  · exact absurd rfl c1
  · refine y_aload_n (pc' := 9) hB dc_M_merge_8 rfl rfl 0 rfl ?_
    refine y_iload_n (pc' := 10) hB dc_M_merge_9 rfl rfl 2 rfl ?_
    refine y_callV (c := 24) (ci := 4) (As := [.int (nI (q))]) (rest := []) (pc' := 13) hB hE (ct_M_noRow o.l o.G (yx S 0) (nI q) (zgr_of hq)) mm_M_noRow q_672 q_674 qs_12 (by decide) rfl rfl dc_M_merge_10 rfl (by decide) rfl rfl (Nat.le_of_ble_eq_true rfl) (fun v S' hpost => ?_)
    obtain ⟨rfl, hSS⟩ := hpost
    rw [hSS]
    clear hSS S'
    show yW o (yx (yx S 0) 0) 13 [(0, .ref (o.G.ad (24))), (1, .int (nI (k))), (2, .int (nI (q))), (3, .int (nI (p))), (4, .int (nI (od)))] [.int (0)]
    rw [yx_yx]
    refine y_if_ne (x := 0) (pc' := 16) (tg := 33) hB dc_M_merge_13 rfl rfl (fun c1 => ?_) (fun c1 => ?_)
    · exact absurd rfl c1
    · refine y_aload_n (pc' := 17) hB dc_M_merge_16 rfl rfl 0 rfl ?_
      refine y_iload_n (pc' := 18) hB dc_M_merge_17 rfl rfl 3 rfl ?_
      refine y_callV (c := 24) (ci := 4) (As := [.int (nI (p))]) (rest := []) (pc' := 21) hB hE (ct_M_noRow o.l o.G (yx S 0) (nI p) (zgr_of hp)) mm_M_noRow q_672 q_674 qs_12 (by decide) rfl rfl dc_M_merge_18 rfl (by decide) rfl rfl (Nat.le_of_ble_eq_true rfl) (fun v S' hpost => ?_)
      obtain ⟨rfl, hSS⟩ := hpost
      rw [hSS]
      clear hSS S'
      show yW o (yx (yx S 0) 0) 21 [(0, .ref (o.G.ad (24))), (1, .int (nI (k))), (2, .int (nI (q))), (3, .int (nI (p))), (4, .int (nI (od)))] [.int (0)]
      rw [yx_yx]
      refine y_if_ne (x := 0) (pc' := 24) (tg := 33) hB dc_M_merge_21 rfl rfl (fun c1 => ?_) (fun c1 => ?_)
      · exact absurd rfl c1
      · refine y_aload_n (pc' := 25) hB dc_M_merge_24 rfl rfl 0 rfl ?_
        refine y_iload (pc' := 27) hB dc_M_merge_25 rfl 4 rfl ?_
        refine y_callV (c := 24) (ci := 4) (As := [.int (nI (od))]) (rest := []) (pc' := 30) hB hE (ct_M_noOrder o.l o.G (yx S 0) (nI od) (zgo_of ho)) mm_M_noOrder q_720 q_722 qs_14 (by decide) rfl rfl dc_M_merge_27 rfl (by decide) rfl rfl (Nat.le_of_ble_eq_true rfl) (fun v S' hpost => ?_)
        obtain ⟨rfl, hSS⟩ := hpost
        rw [hSS]
        clear hSS S'
        show yW o (yx (yx S 0) 0) 30 [(0, .ref (o.G.ad (24))), (1, .int (nI (k))), (2, .int (nI (q))), (3, .int (nI (p))), (4, .int (nI (od)))] [.int (0)]
        rw [yx_yx]
        refine y_if_eq (x := 0) (pc' := 33) (tg := 35) hB dc_M_merge_30 rfl rfl (fun c2 => ?_) (fun c2 => ?_)
        · refine y_aload_n (pc' := 36) hB dc_M_merge_35 rfl rfl 0 rfl ?_
          refine y_aload_n (pc' := 37) hB dc_M_merge_36 rfl rfl 0 rfl ?_
          refine y_iload_n (pc' := 38) hB dc_M_merge_37 rfl rfl 1 rfl ?_
          refine y_iload (pc' := 40) hB dc_M_merge_38 rfl 4 rfl ?_
          refine y_callV (c := 24) (ci := 4) (As := [.int (nI (k)), .int (nI (od))]) (rest := [.ref (o.G.ad (24))]) (pc' := 43) hB hE (ct_M_inOrder o.l o.G (yx S 0) k n hk hn hc od ho) mm_M_inOrder q_769 q_771 qs_20 (by decide) rfl rfl dc_M_merge_40 rfl (by decide) rfl rfl (Nat.le_of_ble_eq_true rfl) (fun v S' hpost => ?_)
          obtain ⟨bo, rfl, rfl, m1⟩ := hpost
          rw [m1.mpr s1]
          show yW o (yx S 0) 43 [(0, .ref (o.G.ad (24))), (1, .int (nI (k))), (2, .int (nI (q))), (3, .int (nI (p))), (4, .int (nI (od)))] [.int (yb true), .ref (o.G.ad (24))]
          refine y_if_eq (x := yb true) (pc' := 46) (tg := 79) hB dc_M_merge_43 rfl rfl (fun c3 => ?_) (fun c3 => ?_)
          · exact absurd c3 (by decide)
          · refine y_aload_n (pc' := 47) hB dc_M_merge_46 rfl rfl 0 rfl ?_
            refine y_iload_n (pc' := 48) hB dc_M_merge_47 rfl rfl 2 rfl ?_
            refine y_iload (pc' := 50) hB dc_M_merge_48 rfl 4 rfl ?_
            refine y_callV (c := 24) (ci := 4) (As := [.int (nI (q)), .int (nI (od))]) (rest := [.ref (o.G.ad (24))]) (pc' := 53) hB hE (ct_M_inOrder o.l o.G (yx S 0) q m hq hm2 hc2 od ho) mm_M_inOrder q_769 q_771 qs_20 (by decide) rfl rfl dc_M_merge_50 rfl (by decide) rfl rfl (Nat.le_of_ble_eq_true rfl) (fun v S' hpost => ?_)
            obtain ⟨bo2, rfl, rfl, m2⟩ := hpost
            rw [m2.mpr s2]
            show yW o (yx S 0) 53 [(0, .ref (o.G.ad (24))), (1, .int (nI (k))), (2, .int (nI (q))), (3, .int (nI (p))), (4, .int (nI (od)))] [.int (yb true), .ref (o.G.ad (24))]
            refine y_if_eq (x := yb true) (pc' := 56) (tg := 79) hB dc_M_merge_53 rfl rfl (fun c4 => ?_) (fun c4 => ?_)
            · exact absurd c4 (by decide)
            · refine y_aload_n (pc' := 57) hB dc_M_merge_56 rfl rfl 0 rfl ?_
              refine f_M_sizes (pc' := 60) hB dc_M_merge_57 rfl q_642 ?_
              refine y_iload_n (pc' := 61) hB dc_M_merge_60 rfl rfl 1 rfl ?_
              refine y_iald (c := 27) (n := 4) (j := k) (pc' := 62) hB dc_M_merge_61 rfl (by decide) rfl (by omega) (by decide) ?_
              refine y_topi (y := nI (n)) (hc) ?_
              refine y_aload_n (pc' := 63) hB dc_M_merge_62 rfl rfl 0 rfl ?_
              refine f_M_sizes (pc' := 66) hB dc_M_merge_63 rfl q_642 ?_
              refine y_iload_n (pc' := 67) hB dc_M_merge_66 rfl rfl 2 rfl ?_
              refine y_iald (c := 27) (n := 4) (j := q) (pc' := 68) hB dc_M_merge_67 rfl (by decide) rfl (by omega) (by decide) ?_
              refine y_topi (y := nI (m)) (hc2) ?_
              refine n_iadd (x := n) (y := m) (pc' := 69) hB dc_M_merge_68 rfl ?_
              refine y_sipush (v := nI 1024) (pc' := 72) hB dc_M_merge_69 rfl (by decide) ?_
              refine n_icmp_gt (pc' := 75) (tg := 79) hB dc_M_merge_72 rfl rfl (by omega) (by omega) (fun c5 => ?_) (fun c5 => ?_)
              · omega
              · refine y_iconst (v := nI 0) (pc' := 76) hB dc_M_merge_75 rfl rfl ?_
                refine y_goto (tg := 80) hB dc_M_merge_76 rfl ?_
                refine p_M_code (pc' := 83) hB dc_M_merge_80 rfl q_639 ?_
                show yW o (yx (yx S 0) 0) 83 [(0, .ref (o.G.ad (24))), (1, .int (nI (k))), (2, .int (nI (q))), (3, .int (nI (p))), (4, .int (nI (od)))] []
                rw [yx_yx]
                refine y_aload_n (pc' := 84) hB dc_M_merge_83 rfl rfl 0 rfl ?_
                refine f_M_code (pc' := 87) hB dc_M_merge_84 rfl q_639 ?_
                refine y_topi (y := nI (0)) (yx_c S 0) ?_
                refine n_if_le (pc' := 90) (tg := 92) hB dc_M_merge_87 rfl rfl (by omega) (fun c6 => ?_) (fun c6 => ?_)
                · refine y_aload_n (pc' := 93) hB dc_M_merge_92 rfl rfl 0 rfl ?_
                  refine y_callV (c := 24) (ci := 4) (As := []) (rest := []) (pc' := 96) hB hE (ct_M_begin o.l o.G (yx S 0)) mm_M_begin q_724 q_726 qs_15 (by decide) rfl rfl dc_M_merge_93 rfl (by decide) rfl rfl (Nat.le_of_ble_eq_true rfl) (fun v S' hpost => ?_)
                  obtain ⟨rfl, hSS⟩ := hpost
                  rw [hSS]
                  clear hSS S'
                  show yW o (mW (yx S 0) (fun j => (gL (yx S 0) 28 j, gI (yx S 0) 29 j)) 0) 96 [(0, .ref (o.G.ad (24))), (1, .int (nI (k))), (2, .int (nI (q))), (3, .int (nI (p))), (4, .int (nI (od)))] []
                  obtain ⟨f0, hf0⟩ : ∃ z, z = (fun j => (gL (yx S 0) 28 j, gI (yx S 0) 29 j)) := ⟨_, rfl⟩
                  rw [← hf0]
                  refine y_aload_n (pc' := 97) hB dc_M_merge_96 rfl rfl 0 rfl ?_
                  refine y_iload_n (pc' := 98) hB dc_M_merge_97 rfl rfl 1 rfl ?_
                  refine y_iload (pc' := 100) hB dc_M_merge_98 rfl 4 rfl ?_
                  refine y_iconst (v := nI 1) (pc' := 101) hB dc_M_merge_100 rfl rfl ?_
                  refine y_callV (c := 24) (ci := 4) (As := [.int (nI (k)), .int (nI (od)), .int (yb (!false))]) (rest := []) (pc' := 104) hB hE (ct_M_placeAll o.l o.G (yx S 0) k n hk hn hc f0 0 (by omega) od ho false (by rw [zs_zero]; exact List.Pairwise.nil)) mm_M_placeAll q_728 q_730 qs_16 (by decide) rfl rfl dc_M_merge_101 rfl (by decide) rfl rfl (Nat.le_of_ble_eq_true rfl) (fun v S' hpost => ?_)
                  obtain ⟨f1, rfl, rfl, m3⟩ := hpost
                  rw [Nat.zero_add, zs_zero] at m3
                  rw [Nat.zero_add]
                  show yW o (mW (yx S 0) f1 n) 104 [(0, .ref (o.G.ad (24))), (1, .int (nI (k))), (2, .int (nI (q))), (3, .int (nI (p))), (4, .int (nI (od)))] []
                  refine y_aload_n (pc' := 105) hB dc_M_merge_104 rfl rfl 0 rfl ?_
                  refine y_iload_n (pc' := 106) hB dc_M_merge_105 rfl rfl 2 rfl ?_
                  refine y_iload (pc' := 108) hB dc_M_merge_106 rfl 4 rfl ?_
                  refine y_iconst (v := nI 1) (pc' := 109) hB dc_M_merge_108 rfl rfl ?_
                  refine y_callV (c := 24) (ci := 4) (As := [.int (nI (q)), .int (nI (od)), .int (yb (!false))]) (rest := []) (pc' := 112) hB hE (ct_M_placeAll o.l o.G (yx S 0) q m hq hm2 hc2 f1 n (by omega) od ho false (by rw [m3]; exact zt_o _ _)) mm_M_placeAll q_728 q_730 qs_16 (by decide) rfl rfl dc_M_merge_109 rfl (by decide) rfl rfl (Nat.le_of_ble_eq_true rfl) (fun v S' hpost => ?_)
                  obtain ⟨f2, rfl, rfl, m4⟩ := hpost
                  rw [m3, zpl_two] at m4
                  show yW o (mW (yx S 0) f2 (n + m)) 112 [(0, .ref (o.G.ad (24))), (1, .int (nI (k))), (2, .int (nI (q))), (3, .int (nI (p))), (4, .int (nI (od)))] []
                  refine y_aload_n (pc' := 113) hB dc_M_merge_112 rfl rfl 0 rfl ?_
                  refine y_iload_n (pc' := 114) hB dc_M_merge_113 rfl rfl 3 rfl ?_
                  refine y_callV (c := 24) (ci := 4) (As := [.int (nI (p))]) (rest := []) (pc' := 117) hB hE (ct_M_give o.l o.G (yx S 0) p (n + m) hp hnm f2) mm_M_give q_757 q_759 qs_19 (by decide) rfl rfl dc_M_merge_114 rfl (by decide) rfl rfl (Nat.le_of_ble_eq_true rfl) (fun v S' hpost => ?_)
                  obtain ⟨K, T, rfl, rfl, m5, m6⟩ := hpost
                  show yW o (sI (mK (mW (yx S 0) f2 (n + m)) K T) 27 (upd (gI (yx S 0) 27) p (nI (n + m)))) 117 [(0, .ref (o.G.ad (24))), (1, .int (nI (k))), (2, .int (nI (q))), (3, .int (nI (p))), (4, .int (nI (od)))] []
                  refine y_aload_n (pc' := 118) hB dc_M_merge_117 rfl rfl 0 rfl ?_
                  refine f_M_sizes (pc' := 121) hB dc_M_merge_118 rfl q_642 ?_
                  refine y_iload_n (pc' := 122) hB dc_M_merge_121 rfl rfl 3 rfl ?_
                  refine y_iald (c := 27) (n := 4) (j := p) (pc' := 123) hB dc_M_merge_122 rfl (by decide) rfl (by omega) (by decide) ?_
                  refine y_topi (y := nI (n + m)) (by rw [gI_same]; unfold upd; rw [if_pos rfl]) ?_
                  exact y_iret hB hE dc_M_merge_123 ⟨f2, K, T, rfl, rfl, m4, m5, m6⟩
                · omega
        · exact absurd rfl c2
