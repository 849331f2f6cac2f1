/-! REFERENCE: add -/
theorem dc_M_add_0 : decode mb_M_add 0 = .ok (.aload_n 0, 1) := by decide +kernel
theorem dc_M_add_1 : decode mb_M_add 1 = .ok (.iload_n 1, 1) := by decide +kernel
theorem dc_M_add_2 : decode mb_M_add 2 = .ok (.invokevirtual 56, 3) := by decide +kernel
theorem dc_M_add_5 : decode mb_M_add 5 = .ok (.ifCond .eq 5, 3) := by decide +kernel
theorem dc_M_add_8 : decode mb_M_add 8 = .ok (.iconst 0, 1) := by decide +kernel
theorem dc_M_add_9 : decode mb_M_add 9 = .ok (.ireturn, 1) := by decide +kernel
theorem dc_M_add_10 : decode mb_M_add 10 = .ok (.aload_n 0, 1) := by decide +kernel
theorem dc_M_add_11 : decode mb_M_add 11 = .ok (.aload_n 0, 1) := by decide +kernel
theorem dc_M_add_12 : decode mb_M_add 12 = .ok (.getfield 17, 3) := by decide +kernel
theorem dc_M_add_15 : decode mb_M_add 15 = .ok (.iload_n 1, 1) := by decide +kernel
theorem dc_M_add_16 : decode mb_M_add 16 = .ok (.iaload, 1) := by decide +kernel
theorem dc_M_add_17 : decode mb_M_add 17 = .ok (.sipush 1024, 3) := by decide +kernel
theorem dc_M_add_20 : decode mb_M_add 20 = .ok (.if_icmp .ne 7, 3) := by decide +kernel
theorem dc_M_add_23 : decode mb_M_add 23 = .ok (.iconst 2, 1) := by decide +kernel
theorem dc_M_add_24 : decode mb_M_add 24 = .ok (.goto 4, 3) := by decide +kernel
theorem dc_M_add_27 : decode mb_M_add 27 = .ok (.iconst 0, 1) := by decide +kernel
theorem dc_M_add_28 : decode mb_M_add 28 = .ok (.putfield 29, 3) := by decide +kernel
theorem dc_M_add_31 : decode mb_M_add 31 = .ok (.aload_n 0, 1) := by decide +kernel
theorem dc_M_add_32 : decode mb_M_add 32 = .ok (.getfield 29, 3) := by decide +kernel
theorem dc_M_add_35 : decode mb_M_add 35 = .ok (.ifCond .le 5, 3) := by decide +kernel
theorem dc_M_add_38 : decode mb_M_add 38 = .ok (.iconst 0, 1) := by decide +kernel
theorem dc_M_add_39 : decode mb_M_add 39 = .ok (.ireturn, 1) := by decide +kernel
theorem dc_M_add_40 : decode mb_M_add 40 = .ok (.aload_n 0, 1) := by decide +kernel
theorem dc_M_add_41 : decode mb_M_add 41 = .ok (.getfield 7, 3) := by decide +kernel
theorem dc_M_add_44 : decode mb_M_add 44 = .ok (.sipush 1024, 3) := by decide +kernel
theorem dc_M_add_47 : decode mb_M_add 47 = .ok (.iload_n 1, 1) := by decide +kernel
theorem dc_M_add_48 : decode mb_M_add 48 = .ok (.imul, 1) := by decide +kernel
theorem dc_M_add_49 : decode mb_M_add 49 = .ok (.aload_n 0, 1) := by decide +kernel
theorem dc_M_add_50 : decode mb_M_add 50 = .ok (.getfield 17, 3) := by decide +kernel
theorem dc_M_add_53 : decode mb_M_add 53 = .ok (.iload_n 1, 1) := by decide +kernel
theorem dc_M_add_54 : decode mb_M_add 54 = .ok (.iaload, 1) := by decide +kernel
theorem dc_M_add_55 : decode mb_M_add 55 = .ok (.iadd, 1) := by decide +kernel
theorem dc_M_add_56 : decode mb_M_add 56 = .ok (.lload_n 2, 1) := by decide +kernel
theorem dc_M_add_57 : decode mb_M_add 57 = .ok (.lastore, 1) := by decide +kernel
theorem dc_M_add_58 : decode mb_M_add 58 = .ok (.aload_n 0, 1) := by decide +kernel
theorem dc_M_add_59 : decode mb_M_add 59 = .ok (.getfield 13, 3) := by decide +kernel
theorem dc_M_add_62 : decode mb_M_add 62 = .ok (.sipush 1024, 3) := by decide +kernel
theorem dc_M_add_65 : decode mb_M_add 65 = .ok (.iload_n 1, 1) := by decide +kernel
theorem dc_M_add_66 : decode mb_M_add 66 = .ok (.imul, 1) := by decide +kernel
theorem dc_M_add_67 : decode mb_M_add 67 = .ok (.aload_n 0, 1) := by decide +kernel
theorem dc_M_add_68 : decode mb_M_add 68 = .ok (.getfield 17, 3) := by decide +kernel
theorem dc_M_add_71 : decode mb_M_add 71 = .ok (.iload_n 1, 1) := by decide +kernel
theorem dc_M_add_72 : decode mb_M_add 72 = .ok (.iaload, 1) := by decide +kernel
theorem dc_M_add_73 : decode mb_M_add 73 = .ok (.iadd, 1) := by decide +kernel
theorem dc_M_add_74 : decode mb_M_add 74 = .ok (.iload 4, 2) := by decide +kernel
theorem dc_M_add_76 : decode mb_M_add 76 = .ok (.iastore, 1) := by decide +kernel
theorem dc_M_add_77 : decode mb_M_add 77 = .ok (.aload_n 0, 1) := by decide +kernel
theorem dc_M_add_78 : decode mb_M_add 78 = .ok (.getfield 17, 3) := by decide +kernel
theorem dc_M_add_81 : decode mb_M_add 81 = .ok (.iload_n 1, 1) := by decide +kernel
theorem dc_M_add_82 : decode mb_M_add 82 = .ok (.dup2, 1) := by decide +kernel
theorem dc_M_add_83 : decode mb_M_add 83 = .ok (.iaload, 1) := by decide +kernel
theorem dc_M_add_84 : decode mb_M_add 84 = .ok (.iconst 1, 1) := by decide +kernel
theorem dc_M_add_85 : decode mb_M_add 85 = .ok (.iadd, 1) := by decide +kernel
theorem dc_M_add_86 : decode mb_M_add 86 = .ok (.iastore, 1) := by decide +kernel
theorem dc_M_add_87 : decode mb_M_add 87 = .ok (.aload_n 0, 1) := by decide +kernel
theorem dc_M_add_88 : decode mb_M_add 88 = .ok (.getfield 17, 3) := by decide +kernel
theorem dc_M_add_91 : decode mb_M_add 91 = .ok (.iload_n 1, 1) := by decide +kernel
theorem dc_M_add_92 : decode mb_M_add 92 = .ok (.iaload, 1) := by decide +kernel
theorem dc_M_add_93 : decode mb_M_add 93 = .ok (.ireturn, 1) := by decide +kernel
set_option maxHeartbeats 4000000 in
set_option maxRecDepth 100000 in
theorem ct_M_add (l : Launch) (g : YG) (S : YS) (k n : Nat) (hk : k < 4) (hn : n < 1024) (hc : gI S 27 k = nI n) (a : Int64) (t : Int32) : yC l mn_M_add mb_M_add 5 (some .int) 1 g [.ref (g.ad (24)), .int (nI (k)), .long (a), .int (t)] S (fun v S' => v = some (.int (nI (n + 1))) ∧ S' = sI (mK (yx S 0) (vp_updL (gL S 25) (1024 * k + n) a) (upd (gI S 26) (1024 * k + n) t)) 27 (upd (gI S 27) k (nI (n + 1)))) := by
  refine yC_of (by decide) (Nat.le_of_ble_eq_true rfl) ?_
  intro o hl hg hB0 hE
  subst hl
  subst hg
  have hB : yB o mb_M_add "OrderBenchModel" := hB0
  have hm := hE.1
  show yW o (S) 0 [(0, .ref (o.G.ad (24))), (1, .int (nI (k))), (2, .long (a)), (4, .int (t))] []
  refine y_aload_n (pc' := 1) hB dc_M_add_0 rfl rfl 0 rfl ?_
  refine y_iload_n (pc' := 2) hB dc_M_add_1 rfl rfl 1 rfl ?_
  refine y_callV (c := 24) (ci := 4) (As := [.int (nI (k))]) (rest := []) (pc' := 5) hB hE (ct_M_noRow o.l o.G S (nI k) (zgr_of hk)) mm_M_noRow q_672 q_674 qs_12 (by decide) rfl rfl dc_M_add_2 rfl (by decide) rfl rfl (Nat.le_of_ble_eq_true rfl) (fun v S' hpost => ?_)
  obtain ⟨rfl, hSS⟩ := hpost
  rw [hSS]
  clear hSS S'
  show yW o (yx S 0) 5 [(0, .ref (o.G.ad (24))), (1, .int (nI (k))), (2, .long (a)), (4, .int (t))] [.int (0)]
  refine y_if_eq (x := 0) (pc' := 8) (tg := 10) hB dc_M_add_5 rfl rfl (fun b1 => ?_) (fun b1 => ?_)
  · refine y_aload_n (pc' := 11) hB dc_M_add_10 rfl rfl 0 rfl ?_
    refine y_aload_n (pc' := 12) hB dc_M_add_11 rfl rfl 0 rfl ?_
    refine f_M_sizes (pc' := 15) hB dc_M_add_12 rfl q_642 ?_
    refine y_iload_n (pc' := 16) hB dc_M_add_15 rfl rfl 1 rfl ?_
    refine y_iald (c := 27) (n := 4) (j := k) (pc' := 17) hB dc_M_add_16 rfl (by decide) rfl (by omega) (by decide) ?_
    refine y_topi (y := nI (n)) (hc) ?_
    refine y_sipush (v := nI 1024) (pc' := 20) hB dc_M_add_17 rfl (by decide) ?_
    refine n_icmp_ne (pc' := 23) (tg := 27) hB dc_M_add_20 rfl rfl (by omega) (by omega) (fun b2 => ?_) (fun b2 => ?_)
    · refine y_iconst (v := nI 0) (pc' := 28) hB dc_M_add_27 rfl rfl ?_
      refine p_M_code (pc' := 31) hB dc_M_add_28 rfl q_639 ?_
      show yW o (yx (yx S 0) 0) 31 [(0, .ref (o.G.ad (24))), (1, .int (nI (k))), (2, .long (a)), (4, .int (t))] []
      rw [yx_yx]
      refine y_aload_n (pc' := 32) hB dc_M_add_31 rfl rfl 0 rfl ?_
      refine f_M_code (pc' := 35) hB dc_M_add_32 rfl q_639 ?_
      refine y_topi (y := nI (0)) (yx_c S 0) ?_
      refine n_if_le (pc' := 38) (tg := 40) hB dc_M_add_35 rfl rfl (by omega) (fun b3 => ?_) (fun b3 => ?_)
      · refine y_aload_n (pc' := 41) hB dc_M_add_40 rfl rfl 0 rfl ?_
        refine f_M_keys (pc' := 44) hB dc_M_add_41 rfl q_640 ?_
        refine y_sipush (v := nI 1024) (pc' := 47) hB dc_M_add_44 rfl (by decide) ?_
        refine y_iload_n (pc' := 48) hB dc_M_add_47 rfl rfl 1 rfl ?_
        refine n_imul (x := 1024) (y := k) (pc' := 49) hB dc_M_add_48 rfl ?_
        refine y_aload_n (pc' := 50) hB dc_M_add_49 rfl rfl 0 rfl ?_
        refine f_M_sizes (pc' := 53) hB dc_M_add_50 rfl q_642 ?_
        refine y_iload_n (pc' := 54) hB dc_M_add_53 rfl rfl 1 rfl ?_
        refine y_iald (c := 27) (n := 4) (j := k) (pc' := 55) hB dc_M_add_54 rfl (by decide) rfl (by omega) (by decide) ?_
        refine y_topi (y := nI (n)) (hc) ?_
        refine n_iadd (x := 1024 * k) (y := n) (pc' := 56) hB dc_M_add_55 rfl ?_
        refine y_lload_n (pc' := 57) hB dc_M_add_56 rfl rfl 2 rfl ?_
        refine y_last (c := 25) (n := 4096) (j := (1024 * k) + n) (pc' := 58) hB dc_M_add_57 rfl (by decide) rfl (by omega) (by decide) ?_
        refine y_aload_n (pc' := 59) hB dc_M_add_58 rfl rfl 0 rfl ?_
        refine f_M_tags (pc' := 62) hB dc_M_add_59 rfl q_641 ?_
        refine y_sipush (v := nI 1024) (pc' := 65) hB dc_M_add_62 rfl (by decide) ?_
        refine y_iload_n (pc' := 66) hB dc_M_add_65 rfl rfl 1 rfl ?_
        refine n_imul (x := 1024) (y := k) (pc' := 67) hB dc_M_add_66 rfl ?_
        refine y_aload_n (pc' := 68) hB dc_M_add_67 rfl rfl 0 rfl ?_
        refine f_M_sizes (pc' := 71) hB dc_M_add_68 rfl q_642 ?_
        refine y_iload_n (pc' := 72) hB dc_M_add_71 rfl rfl 1 rfl ?_
        refine y_iald (c := 27) (n := 4) (j := k) (pc' := 73) hB dc_M_add_72 rfl (by decide) rfl (by omega) (by decide) ?_
        refine y_topi (y := nI (n)) (hc) ?_
        refine n_iadd (x := 1024 * k) (y := n) (pc' := 74) hB dc_M_add_73 rfl ?_
        refine y_iload (pc' := 76) hB dc_M_add_74 rfl 3 rfl ?_
        refine y_iast (c := 26) (n := 4096) (j := (1024 * k) + n) (pc' := 77) hB dc_M_add_76 rfl (by decide) rfl (by omega) (by decide) ?_
        show yW o (mK (yx S 0) (vp_updL (gL S 25) (1024 * k + n) a) (upd (gI S 26) (1024 * k + n) t)) 77 [(0, .ref (o.G.ad (24))), (1, .int (nI (k))), (2, .long (a)), (4, .int (t))] []
        refine y_aload_n (pc' := 78) hB dc_M_add_77 rfl rfl 0 rfl ?_
        refine f_M_sizes (pc' := 81) hB dc_M_add_78 rfl q_642 ?_
        refine y_iload_n (pc' := 82) hB dc_M_add_81 rfl rfl 1 rfl ?_
        refine y_dup2 (pc' := 83) hB dc_M_add_82 rfl rfl rfl ?_
        refine y_iald (c := 27) (n := 4) (j := k) (pc' := 84) hB dc_M_add_83 rfl (by decide) rfl (by omega) (by decide) ?_
        refine y_topi (y := nI (n)) (by rw [mK_I _ _ _ (by decide)]; exact hc) ?_
        refine y_iconst (v := nI 1) (pc' := 85) hB dc_M_add_84 rfl rfl ?_
        refine n_iadd (x := n) (y := 1) (pc' := 86) hB dc_M_add_85 rfl ?_
        refine y_iast (c := 27) (n := 4) (j := k) (pc' := 87) hB dc_M_add_86 rfl (by decide) rfl (by omega) (by decide) ?_
        rw [mK_I _ _ _ (by decide)]
        refine y_aload_n (pc' := 88) hB dc_M_add_87 rfl rfl 0 rfl ?_
        refine f_M_sizes (pc' := 91) hB dc_M_add_88 rfl q_642 ?_
        refine y_iload_n (pc' := 92) hB dc_M_add_91 rfl rfl 1 rfl ?_
        refine y_iald (c := 27) (n := 4) (j := k) (pc' := 93) hB dc_M_add_92 rfl (by decide) rfl (by omega) (by decide) ?_
        refine y_topi (y := nI (n + 1)) (by rw [gI_same]; unfold upd; rw [if_pos rfl]) ?_
        exact y_iret hB hE dc_M_add_93 ⟨rfl, rfl⟩
      · omega
    · omega
  · exact absurd rfl b1
