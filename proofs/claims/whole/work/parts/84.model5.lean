/-! REFERENCE: climb -/
theorem dc_M_climb_0 : decode mb_M_climb 0 = .ok (.aload_n 0, 1) := by decide +kernel
theorem dc_M_climb_1 : decode mb_M_climb 1 = .ok (.iload_n 1, 1) := by decide +kernel
theorem dc_M_climb_2 : decode mb_M_climb 2 = .ok (.invokevirtual 56, 3) := by decide +kernel
theorem dc_M_climb_5 : decode mb_M_climb 5 = .ok (.ifCond .ne 11, 3) := by decide +kernel
theorem dc_M_climb_8 : decode mb_M_climb 8 = .ok (.aload_n 0, 1) := by decide +kernel
theorem dc_M_climb_9 : decode mb_M_climb 9 = .ok (.iload_n 2, 1) := by decide +kernel
theorem dc_M_climb_10 : decode mb_M_climb 10 = .ok (.invokevirtual 81, 3) := by decide +kernel
theorem dc_M_climb_13 : decode mb_M_climb 13 = .ok (.ifCond .eq 5, 3) := by decide +kernel
theorem dc_M_climb_16 : decode mb_M_climb 16 = .ok (.iconst 0, 1) := by decide +kernel
theorem dc_M_climb_17 : decode mb_M_climb 17 = .ok (.ireturn, 1) := by decide +kernel
theorem dc_M_climb_18 : decode mb_M_climb 18 = .ok (.iconst 0, 1) := by decide +kernel
theorem dc_M_climb_19 : decode mb_M_climb 19 = .ok (.istore_n 3, 1) := by decide +kernel
theorem dc_M_climb_20 : decode mb_M_climb 20 = .ok (.iconst 0, 1) := by decide +kernel
theorem dc_M_climb_21 : decode mb_M_climb 21 = .ok (.istore 4, 2) := by decide +kernel
theorem dc_M_climb_23 : decode mb_M_climb 23 = .ok (.iload 4, 2) := by decide +kernel
theorem dc_M_climb_25 : decode mb_M_climb 25 = .ok (.aload_n 0, 1) := by decide +kernel
theorem dc_M_climb_26 : decode mb_M_climb 26 = .ok (.getfield 17, 3) := by decide +kernel
theorem dc_M_climb_29 : decode mb_M_climb 29 = .ok (.iload_n 1, 1) := by decide +kernel
theorem dc_M_climb_30 : decode mb_M_climb 30 = .ok (.iaload, 1) := by decide +kernel
theorem dc_M_climb_31 : decode mb_M_climb 31 = .ok (.if_icmp .ge 124, 3) := by decide +kernel
theorem dc_M_climb_34 : decode mb_M_climb 34 = .ok (.aload_n 0, 1) := by decide +kernel
theorem dc_M_climb_35 : decode mb_M_climb 35 = .ok (.getfield 26, 3) := by decide +kernel
theorem dc_M_climb_38 : decode mb_M_climb 38 = .ok (.iload 4, 2) := by decide +kernel
theorem dc_M_climb_40 : decode mb_M_climb 40 = .ok (.iconst 1, 1) := by decide +kernel
theorem dc_M_climb_41 : decode mb_M_climb 41 = .ok (.iastore, 1) := by decide +kernel
theorem dc_M_climb_42 : decode mb_M_climb 42 = .ok (.iconst 0, 1) := by decide +kernel
theorem dc_M_climb_43 : decode mb_M_climb 43 = .ok (.istore 5, 2) := by decide +kernel
theorem dc_M_climb_45 : decode mb_M_climb 45 = .ok (.iload 5, 2) := by decide +kernel
theorem dc_M_climb_47 : decode mb_M_climb 47 = .ok (.iload 4, 2) := by decide +kernel
theorem dc_M_climb_49 : decode mb_M_climb 49 = .ok (.if_icmp .ge 77, 3) := by decide +kernel
theorem dc_M_climb_52 : decode mb_M_climb 52 = .ok (.aload_n 0, 1) := by decide +kernel
theorem dc_M_climb_53 : decode mb_M_climb 53 = .ok (.getfield 26, 3) := by decide +kernel
theorem dc_M_climb_56 : decode mb_M_climb 56 = .ok (.iload 5, 2) := by decide +kernel
theorem dc_M_climb_58 : decode mb_M_climb 58 = .ok (.iaload, 1) := by decide +kernel
theorem dc_M_climb_59 : decode mb_M_climb 59 = .ok (.iconst 1, 1) := by decide +kernel
theorem dc_M_climb_60 : decode mb_M_climb 60 = .ok (.iadd, 1) := by decide +kernel
theorem dc_M_climb_61 : decode mb_M_climb 61 = .ok (.aload_n 0, 1) := by decide +kernel
theorem dc_M_climb_62 : decode mb_M_climb 62 = .ok (.getfield 26, 3) := by decide +kernel
theorem dc_M_climb_65 : decode mb_M_climb 65 = .ok (.iload 4, 2) := by decide +kernel
theorem dc_M_climb_67 : decode mb_M_climb 67 = .ok (.iaload, 1) := by decide +kernel
theorem dc_M_climb_68 : decode mb_M_climb 68 = .ok (.if_icmp .le 52, 3) := by decide +kernel
theorem dc_M_climb_71 : decode mb_M_climb 71 = .ok (.iload_n 2, 1) := by decide +kernel
theorem dc_M_climb_72 : decode mb_M_climb 72 = .ok (.aload_n 0, 1) := by decide +kernel
theorem dc_M_climb_73 : decode mb_M_climb 73 = .ok (.getfield 7, 3) := by decide +kernel
theorem dc_M_climb_76 : decode mb_M_climb 76 = .ok (.sipush 1024, 3) := by decide +kernel
theorem dc_M_climb_79 : decode mb_M_climb 79 = .ok (.iload_n 1, 1) := by decide +kernel
theorem dc_M_climb_80 : decode mb_M_climb 80 = .ok (.imul, 1) := by decide +kernel
theorem dc_M_climb_81 : decode mb_M_climb 81 = .ok (.iload 5, 2) := by decide +kernel
theorem dc_M_climb_83 : decode mb_M_climb 83 = .ok (.iadd, 1) := by decide +kernel
theorem dc_M_climb_84 : decode mb_M_climb 84 = .ok (.laload, 1) := by decide +kernel
theorem dc_M_climb_85 : decode mb_M_climb 85 = .ok (.aload_n 0, 1) := by decide +kernel
theorem dc_M_climb_86 : decode mb_M_climb 86 = .ok (.getfield 7, 3) := by decide +kernel
theorem dc_M_climb_89 : decode mb_M_climb 89 = .ok (.sipush 1024, 3) := by decide +kernel
theorem dc_M_climb_92 : decode mb_M_climb 92 = .ok (.iload_n 1, 1) := by decide +kernel
theorem dc_M_climb_93 : decode mb_M_climb 93 = .ok (.imul, 1) := by decide +kernel
theorem dc_M_climb_94 : decode mb_M_climb 94 = .ok (.iload 4, 2) := by decide +kernel
theorem dc_M_climb_96 : decode mb_M_climb 96 = .ok (.iadd, 1) := by decide +kernel
theorem dc_M_climb_97 : decode mb_M_climb 97 = .ok (.laload, 1) := by decide +kernel
theorem dc_M_climb_98 : decode mb_M_climb 98 = .ok (.invokestatic 52, 3) := by decide +kernel
theorem dc_M_climb_101 : decode mb_M_climb 101 = .ok (.ifCond .eq 19, 3) := by decide +kernel
theorem dc_M_climb_104 : decode mb_M_climb 104 = .ok (.aload_n 0, 1) := by decide +kernel
theorem dc_M_climb_105 : decode mb_M_climb 105 = .ok (.getfield 26, 3) := by decide +kernel
theorem dc_M_climb_108 : decode mb_M_climb 108 = .ok (.iload 4, 2) := by decide +kernel
theorem dc_M_climb_110 : decode mb_M_climb 110 = .ok (.aload_n 0, 1) := by decide +kernel
theorem dc_M_climb_111 : decode mb_M_climb 111 = .ok (.getfield 26, 3) := by decide +kernel
theorem dc_M_climb_114 : decode mb_M_climb 114 = .ok (.iload 5, 2) := by decide +kernel
theorem dc_M_climb_116 : decode mb_M_climb 116 = .ok (.iaload, 1) := by decide +kernel
theorem dc_M_climb_117 : decode mb_M_climb 117 = .ok (.iconst 1, 1) := by decide +kernel
theorem dc_M_climb_118 : decode mb_M_climb 118 = .ok (.iadd, 1) := by decide +kernel
theorem dc_M_climb_119 : decode mb_M_climb 119 = .ok (.iastore, 1) := by decide +kernel
theorem dc_M_climb_120 : decode mb_M_climb 120 = .ok (.iinc 5 1, 3) := by decide +kernel
theorem dc_M_climb_123 : decode mb_M_climb 123 = .ok (.goto (-78), 3) := by decide +kernel
theorem dc_M_climb_126 : decode mb_M_climb 126 = .ok (.aload_n 0, 1) := by decide +kernel
theorem dc_M_climb_127 : decode mb_M_climb 127 = .ok (.getfield 26, 3) := by decide +kernel
theorem dc_M_climb_130 : decode mb_M_climb 130 = .ok (.iload 4, 2) := by decide +kernel
theorem dc_M_climb_132 : decode mb_M_climb 132 = .ok (.iaload, 1) := by decide +kernel
theorem dc_M_climb_133 : decode mb_M_climb 133 = .ok (.iload_n 3, 1) := by decide +kernel
theorem dc_M_climb_134 : decode mb_M_climb 134 = .ok (.if_icmp .le 13, 3) := by decide +kernel
theorem dc_M_climb_137 : decode mb_M_climb 137 = .ok (.aload_n 0, 1) := by decide +kernel
theorem dc_M_climb_138 : decode mb_M_climb 138 = .ok (.getfield 26, 3) := by decide +kernel
theorem dc_M_climb_141 : decode mb_M_climb 141 = .ok (.iload 4, 2) := by decide +kernel
theorem dc_M_climb_143 : decode mb_M_climb 143 = .ok (.iaload, 1) := by decide +kernel
theorem dc_M_climb_144 : decode mb_M_climb 144 = .ok (.goto 4, 3) := by decide +kernel
theorem dc_M_climb_147 : decode mb_M_climb 147 = .ok (.iload_n 3, 1) := by decide +kernel
theorem dc_M_climb_148 : decode mb_M_climb 148 = .ok (.istore_n 3, 1) := by decide +kernel
theorem dc_M_climb_149 : decode mb_M_climb 149 = .ok (.iinc 4 1, 3) := by decide +kernel
theorem dc_M_climb_152 : decode mb_M_climb 152 = .ok (.goto (-129), 3) := by decide +kernel
theorem dc_M_climb_155 : decode mb_M_climb 155 = .ok (.iload_n 3, 1) := by decide +kernel
theorem dc_M_climb_156 : decode mb_M_climb 156 = .ok (.ireturn, 1) := by decide +kernel
theorem zlg_le {α : Type} (r : α → Int) (f : Nat → α) : ∀ j, zlg r f j ≤ j + 1 := by
  intro j
  induction j using Nat.strongRecOn with
  | ind j ih =>
    rw [zlg_eq]
    have := zmx_ge (r := r) (f := f) (g := zlg r f) (i := j) (p := j) j (fun t ht _ => by have := ih t ht; omega)
    omega
theorem zmx_s {α : Type} (r : α → Int) (f : Nat → α) (g : Nat → Nat) (i t : Nat) : zmx r f g i (t + 1) = if r (f t) < r (f i) then max (zmx r f g i t) (g t) else zmx r f g i t := rfl
theorem zmost_le {g : Nat → Nat} (h : ∀ j, g j ≤ j + 1) : ∀ n, zmost g n ≤ n := by
  intro n
  induction n with
  | zero => exact Nat.le_refl _
  | succ n ih => show max (zmost g n) (g n) ≤ n + 1; have := h n; omega
set_option maxHeartbeats 4000000 in
set_option maxRecDepth 100000 in
theorem ct_M_climb (l : Launch) (g : YG) (S : YS) (k n : Nat) (hk : k < 4) (hn : n ≤ 1024) (hc : gI S 27 k = nI n) (od : Nat) (ho : od < 8) : yC l mn_M_climb mb_M_climb 6 (some .int) 4 g [.ref (g.ad (24)), .int (nI (k)), .int (nI (od))] S (fun v S' => ∃ h' : Nat → Int32, v = some (.int (nI (zmost (zlg (zq od false) (ze4 S k)) n))) ∧ S' = sI (yx S 0) 30 h') := by
  refine yC_of (by decide) (Nat.le_of_ble_eq_true rfl) ?_
  intro o hl hg hB0 hE
  subst hl
  subst hg
  have hB : yB o mb_M_climb "OrderBenchModel" := hB0
  have hm := hE.1
  show yW o (S) 0 [(0, .ref (o.G.ad (24))), (1, .int (nI (k))), (2, .int (nI (od)))] []
  obtain ⟨g, hg⟩ : ∃ z, z = zlg (zq od false) (ze4 S k) := ⟨_, rfl⟩
  have hgl : ∀ j, g j ≤ j + 1 := by rw [hg]; exact zlg_le _ _
  have hml := zmost_le hgl
  have hge : ∀ i, g i = zmx (zq od false) (ze4 S k) g i i + 1 := by rw [hg]; exact zlg_eq _ _
  have hc2 : ∀ h1 : Nat → Int32, gI (sI (yx S 0) 30 h1) 27 k = nI n := fun h1 => by rw [gI_sI, if_neg (by decide)]; exact hc
  refine y_aload_n (pc' := 1) hB dc_M_climb_0 rfl rfl 0 rfl ?_
  refine y_iload_n (pc' := 2) hB dc_M_climb_1 rfl rfl 1 rfl ?_
  refine y_callV (c := 24) (ci := 4) (As := [.int (nI (k))]) (rest := []) (pc' := 5) hB hE (ct_M_noRow o.l o.G S (nI k) (zgr_of hk)) mm_M_noRow q_672 q_674 qs_12 (by decide) rfl rfl dc_M_climb_2 rfl (by decide) rfl rfl (Nat.le_of_ble_eq_true rfl) (fun v S' hpost => ?_)
  obtain ⟨rfl, hSS⟩ := hpost
  rw [hSS]
  clear hSS S'
  show yW o (yx S 0) 5 [(0, .ref (o.G.ad (24))), (1, .int (nI (k))), (2, .int (nI (od)))] [.int (0)]
  refine y_if_ne (x := 0) (pc' := 8) (tg := 16) hB dc_M_climb_5 rfl rfl (fun c1 => ?_) (fun c1 => ?_)
  · exact absurd rfl c1
  · refine y_aload_n (pc' := 9) hB dc_M_climb_8 rfl rfl 0 rfl ?_
    refine y_iload_n (pc' := 10) hB dc_M_climb_9 rfl rfl 2 rfl ?_
    refine y_callV (c := 24) (ci := 4) (As := [.int (nI (od))]) (rest := []) (pc' := 13) hB hE (ct_M_noOrder o.l o.G (yx S 0) (nI od) (zgo_of ho)) mm_M_noOrder q_720 q_722 qs_14 (by decide) rfl rfl dc_M_climb_10 rfl (by decide) rfl rfl (Nat.le_of_ble_eq_true rfl) (fun v S' hpost => ?_)
    obtain ⟨rfl, hSS⟩ := hpost
    rw [hSS]
    clear hSS S'
    show yW o (yx (yx S 0) 0) 13 [(0, .ref (o.G.ad (24))), (1, .int (nI (k))), (2, .int (nI (od)))] [.int (0)]
    rw [yx_yx]
    refine y_if_eq (x := 0) (pc' := 16) (tg := 18) hB dc_M_climb_13 rfl rfl (fun c2 => ?_) (fun c2 => ?_)
    · refine y_iconst (v := nI 0) (pc' := 19) hB dc_M_climb_18 rfl rfl ?_
      refine y_istore_n (pc' := 20) (lv' := [(3, .int (nI (0))), (0, .ref (o.G.ad (24))), (1, .int (nI (k))), (2, .int (nI (od)))]) hB hm dc_M_climb_19 rfl rfl (by decide) rfl ?_
      refine y_iconst (v := nI 0) (pc' := 21) hB dc_M_climb_20 rfl rfl ?_
      refine y_istore (pc' := 23) (lv' := [(4, .int (nI (0))), (3, .int (nI (0))), (0, .ref (o.G.ad (24))), (1, .int (nI (k))), (2, .int (nI (od)))]) hB hm dc_M_climb_21 rfl (by decide) rfl ?_
      have outer : ∀ (d : Nat) (i : Nat) (h1 : Nat → Int32), n - i < d → i ≤ n → (∀ t, t < i → h1 t = nI (g t)) → yW o (sI (yx S 0) 30 h1) 23 [(4, .int (nI (i))), (3, .int (nI (zmost g i))), (0, .ref (o.G.ad (24))), (1, .int (nI (k))), (2, .int (nI (od)))] [] := by
        intro d
        induction d with
        | zero => intro i h1 hd; omega
        | succ d ih =>
          intro i h1 hd k1 k2
          refine y_iload (pc' := 25) hB dc_M_climb_23 rfl 0 rfl ?_
          refine y_aload_n (pc' := 26) hB dc_M_climb_25 rfl rfl 2 rfl ?_
          refine f_M_sizes (pc' := 29) hB dc_M_climb_26 rfl q_642 ?_
          refine y_iload_n (pc' := 30) hB dc_M_climb_29 rfl rfl 3 rfl ?_
          refine y_iald (c := 27) (n := 4) (j := k) (pc' := 31) hB dc_M_climb_30 rfl (by decide) rfl (by omega) (by decide) ?_
          refine y_topi (y := nI (n)) (hc2 h1) ?_
          refine n_icmp_ge (pc' := 34) (tg := 155) hB dc_M_climb_31 rfl rfl (by omega) (by omega) (fun b1 => ?_) (fun b1 => ?_)
          · have e : i = n := by omega
            subst e
            refine y_iload_n (pc' := 156) hB dc_M_climb_155 rfl rfl 1 rfl ?_
            exact y_iret hB hE dc_M_climb_156 ⟨h1, by rw [hg], rfl⟩
          · refine y_aload_n (pc' := 35) hB dc_M_climb_34 rfl rfl 2 rfl ?_
            refine f_M_longest (pc' := 38) hB dc_M_climb_35 rfl q_646 ?_
            refine y_iload (pc' := 40) hB dc_M_climb_38 rfl 0 rfl ?_
            refine y_iconst (v := nI 1) (pc' := 41) hB dc_M_climb_40 rfl rfl ?_
            refine y_iast (c := 30) (n := 1024) (j := i) (pc' := 42) hB dc_M_climb_41 rfl (by decide) rfl (by omega) (by decide) ?_
            rw [gI_same, sI_sI]
            refine y_iconst (v := nI 0) (pc' := 43) hB dc_M_climb_42 rfl rfl ?_
            refine y_istore (pc' := 45) (lv' := [(5, .int (nI (0))), (4, .int (nI (i))), (3, .int (nI (zmost g i))), (0, .ref (o.G.ad (24))), (1, .int (nI (k))), (2, .int (nI (od)))]) hB hm dc_M_climb_43 rfl (by decide) rfl ?_
            have inner : ∀ (d2 : Nat) (j : Nat) (h2 : Nat → Int32), i - j < d2 → j ≤ i → (∀ t, t < i → h2 t = nI (g t)) → h2 i = nI (zmx (zq od false) (ze4 S k) g i j + 1) → yW o (sI (yx S 0) 30 h2) 45 [(5, .int (nI (j))), (4, .int (nI (i))), (3, .int (nI (zmost g i))), (0, .ref (o.G.ad (24))), (1, .int (nI (k))), (2, .int (nI (od)))] [] := by
              intro d2
              induction d2 with
              | zero => intro j h2 hd2; omega
              | succ d2 ih2 =>
                intro j h2 hd2 j1 j2 j3
                have zb := zmx_ge (r := zq od false) (f := (ze4 S k)) (g := g) (i := i) (p := i) j (fun t ht _ => by have := hgl t; omega)
                refine y_iload (pc' := 47) hB dc_M_climb_45 rfl 0 rfl ?_
                refine y_iload (pc' := 49) hB dc_M_climb_47 rfl 1 rfl ?_
                refine n_icmp_ge (pc' := 52) (tg := 126) hB dc_M_climb_49 rfl rfl (by omega) (by omega) (fun b2 => ?_) (fun b2 => ?_)
                · have e : j = i := by omega
                  rw [e, ← hge i] at j3
                  have e1 := hgl i
                  have e2 := hml i
                  have em : zmost g (i + 1) = max (zmost g i) (g i) := rfl
                  have hz := ih (i + 1) h2 (by omega) b1 (fun t ht => by by_cases e : t = i; rw [e]; exact j3; exact j2 t (by omega))
                  rw [em] at hz
                  refine y_aload_n (pc' := 127) hB dc_M_climb_126 rfl rfl 3 rfl ?_
                  refine f_M_longest (pc' := 130) hB dc_M_climb_127 rfl q_646 ?_
                  refine y_iload (pc' := 132) hB dc_M_climb_130 rfl 1 rfl ?_
                  refine y_iald (c := 30) (n := 1024) (j := i) (pc' := 133) hB dc_M_climb_132 rfl (by decide) rfl (by omega) (by decide) ?_
                  refine y_topi (y := nI (g i)) (by rw [gI_same]; exact j3) ?_
                  refine y_iload_n (pc' := 134) hB dc_M_climb_133 rfl rfl 2 rfl ?_
                  refine n_icmp_le (pc' := 137) (tg := 147) hB dc_M_climb_134 rfl rfl (by omega) (by omega) (fun b3 => ?_) (fun b3 => ?_)
                  · refine y_iload_n (pc' := 148) hB dc_M_climb_147 rfl rfl 2 rfl ?_
                    refine y_istore_n (pc' := 149) (lv' := [(3, .int (nI (zmost g i))), (5, .int (nI (j))), (4, .int (nI (i))), (0, .ref (o.G.ad (24))), (1, .int (nI (k))), (2, .int (nI (od)))]) hB hm dc_M_climb_148 rfl rfl (by decide) rfl ?_
                    refine n_inc (q := 2) (z := 1) (pc' := 152) (lv' := [(4, .int (nI (i + 1))), (3, .int (nI (zmost g i))), (5, .int (nI (j))), (0, .ref (o.G.ad (24))), (1, .int (nI (k))), (2, .int (nI (od)))]) hB hm dc_M_climb_149 rfl rfl (by decide) rfl ?_
                    refine y_goto (tg := 23) hB dc_M_climb_152 rfl ?_
                    refine y_sub [0, 1, 3, 4, 5] rfl ?_
                    rw [Nat.max_eq_left (by omega)] at hz
                    exact hz
                  · refine y_aload_n (pc' := 138) hB dc_M_climb_137 rfl rfl 3 rfl ?_
                    refine f_M_longest (pc' := 141) hB dc_M_climb_138 rfl q_646 ?_
                    refine y_iload (pc' := 143) hB dc_M_climb_141 rfl 1 rfl ?_
                    refine y_iald (c := 30) (n := 1024) (j := i) (pc' := 144) hB dc_M_climb_143 rfl (by decide) rfl (by omega) (by decide) ?_
                    refine y_topi (y := nI (g i)) (by rw [gI_same]; exact j3) ?_
                    refine y_goto (tg := 148) hB dc_M_climb_144 rfl ?_
                    refine y_istore_n (pc' := 149) (lv' := [(3, .int (nI (g i))), (5, .int (nI (j))), (4, .int (nI (i))), (0, .ref (o.G.ad (24))), (1, .int (nI (k))), (2, .int (nI (od)))]) hB hm dc_M_climb_148 rfl rfl (by decide) rfl ?_
                    refine n_inc (q := 2) (z := 1) (pc' := 152) (lv' := [(4, .int (nI (i + 1))), (3, .int (nI (g i))), (5, .int (nI (j))), (0, .ref (o.G.ad (24))), (1, .int (nI (k))), (2, .int (nI (od)))]) hB hm dc_M_climb_149 rfl rfl (by decide) rfl ?_
                    refine y_goto (tg := 23) hB dc_M_climb_152 rfl ?_
                    refine y_sub [0, 1, 3, 4, 5] rfl ?_
                    rw [Nat.max_eq_right (by omega)] at hz
                    exact hz
                · have e1 := hgl j
                  have es := zmx_s (zq od false) (ze4 S k) g i j
                  refine y_aload_n (pc' := 53) hB dc_M_climb_52 rfl rfl 3 rfl ?_
                  refine f_M_longest (pc' := 56) hB dc_M_climb_53 rfl q_646 ?_
                  refine y_iload (pc' := 58) hB dc_M_climb_56 rfl 0 rfl ?_
                  refine y_iald (c := 30) (n := 1024) (j := j) (pc' := 59) hB dc_M_climb_58 rfl (by decide) rfl (by omega) (by decide) ?_
                  refine y_topi (y := nI (g j)) (by rw [gI_same]; exact j2 j b2) ?_
                  refine y_iconst (v := nI 1) (pc' := 60) hB dc_M_climb_59 rfl rfl ?_
                  refine n_iadd (x := g j) (y := 1) (pc' := 61) hB dc_M_climb_60 rfl ?_
                  refine y_aload_n (pc' := 62) hB dc_M_climb_61 rfl rfl 3 rfl ?_
                  refine f_M_longest (pc' := 65) hB dc_M_climb_62 rfl q_646 ?_
                  refine y_iload (pc' := 67) hB dc_M_climb_65 rfl 1 rfl ?_
                  refine y_iald (c := 30) (n := 1024) (j := i) (pc' := 68) hB dc_M_climb_67 rfl (by decide) rfl (by omega) (by decide) ?_
                  refine y_topi (y := nI (zmx (zq od false) (ze4 S k) g i j + 1)) (by rw [gI_same]; exact j3) ?_
                  refine n_icmp_le (pc' := 71) (tg := 120) hB dc_M_climb_68 rfl rfl (by omega) (by omega) (fun b3 => ?_) (fun b3 => ?_)
                  · refine n_inc (q := 0) (z := 1) (pc' := 123) (lv' := [(5, .int (nI (j + 1))), (4, .int (nI (i))), (3, .int (nI (zmost g i))), (0, .ref (o.G.ad (24))), (1, .int (nI (k))), (2, .int (nI (od)))]) hB hm dc_M_climb_120 rfl rfl (by decide) rfl ?_
                    refine y_goto (tg := 45) hB dc_M_climb_123 rfl ?_
                    refine y_sub [0, 1, 2, 3, 4, 5] rfl ?_
                    refine ih2 (j + 1) h2 (by omega) (by omega) j2 ?_
                    rw [es, j3]
                    split
                    · rw [Nat.max_eq_left (by omega)]
                    · rfl
                  · refine y_iload_n (pc' := 72) hB dc_M_climb_71 rfl rfl 5 rfl ?_
                    refine y_aload_n (pc' := 73) hB dc_M_climb_72 rfl rfl 3 rfl ?_
                    refine f_M_keys (pc' := 76) hB dc_M_climb_73 rfl q_640 ?_
                    refine y_sipush (v := nI 1024) (pc' := 79) hB dc_M_climb_76 rfl (by decide) ?_
                    refine y_iload_n (pc' := 80) hB dc_M_climb_79 rfl rfl 4 rfl ?_
                    refine n_imul (x := 1024) (y := k) (pc' := 81) hB dc_M_climb_80 rfl ?_
                    refine y_iload (pc' := 83) hB dc_M_climb_81 rfl 0 rfl ?_
                    refine n_iadd (x := 1024 * k) (y := j) (pc' := 84) hB dc_M_climb_83 rfl ?_
                    refine y_lald (c := 25) (n := 4096) (j := (1024 * k) + j) (pc' := 85) hB dc_M_climb_84 rfl (by decide) rfl (by omega) (by decide) ?_
                    refine y_aload_n (pc' := 86) hB dc_M_climb_85 rfl rfl 3 rfl ?_
                    refine f_M_keys (pc' := 89) hB dc_M_climb_86 rfl q_640 ?_
                    refine y_sipush (v := nI 1024) (pc' := 92) hB dc_M_climb_89 rfl (by decide) ?_
                    refine y_iload_n (pc' := 93) hB dc_M_climb_92 rfl rfl 4 rfl ?_
                    refine n_imul (x := 1024) (y := k) (pc' := 94) hB dc_M_climb_93 rfl ?_
                    refine y_iload (pc' := 96) hB dc_M_climb_94 rfl 1 rfl ?_
                    refine n_iadd (x := 1024 * k) (y := i) (pc' := 97) hB dc_M_climb_96 rfl ?_
                    refine y_lald (c := 25) (n := 4096) (j := (1024 * k) + i) (pc' := 98) hB dc_M_climb_97 rfl (by decide) rfl (by omega) (by decide) ?_
                    refine y_callS (As := [.int (nI (od)), .long (gL (sI (yx S 0) 30 h2) (25) ((1024 * k) + j)), .long (gL (sI (yx S 0) 30 h2) (25) ((1024 * k) + i))]) (rest := []) (pc' := 101) hB hE (ct_M_isBefore o.l o.G (sI (yx S 0) 30 h2) od ho ((ze4 S k) j).1 ((ze4 S k) i).1) mm_M_isBefore q_740 q_741 dc_M_climb_98 rfl (by decide) rfl rfl (Nat.le_of_ble_eq_true rfl) (fun v S' hpost => ?_)
                    obtain ⟨rfl, hSS⟩ := hpost
                    rw [hSS]
                    clear hSS S'
                    show yW o (sI (yx S 0) 30 h2) 101 [(5, .int (nI (j))), (4, .int (nI (i))), (3, .int (nI (zmost g i))), (0, .ref (o.G.ad (24))), (1, .int (nI (k))), (2, .int (nI (od)))] [.int (yb (decide (zr od ((ze4 S k) j).1 < zr od ((ze4 S k) i).1)))]
                    refine y_if_eq (x := yb (decide (zr od ((ze4 S k) j).1 < zr od ((ze4 S k) i).1))) (pc' := 104) (tg := 120) hB dc_M_climb_101 rfl rfl (fun b4 => ?_) (fun b4 => ?_)
                    · rw [yb_0, decide_eq_false_iff_not] at b4
                      rw [if_neg (show ¬ zq od false ((ze4 S k) j) < zq od false ((ze4 S k) i) from b4)] at es
                      refine n_inc (q := 0) (z := 1) (pc' := 123) (lv' := [(5, .int (nI (j + 1))), (4, .int (nI (i))), (3, .int (nI (zmost g i))), (0, .ref (o.G.ad (24))), (1, .int (nI (k))), (2, .int (nI (od)))]) hB hm dc_M_climb_120 rfl rfl (by decide) rfl ?_
                      refine y_goto (tg := 45) hB dc_M_climb_123 rfl ?_
                      refine y_sub [0, 1, 2, 3, 4, 5] rfl ?_
                      exact ih2 (j + 1) h2 (by omega) (by omega) j2 (by rw [es, j3])
                    · rw [yb_n, decide_eq_true_eq] at b4
                      rw [if_pos (show zq od false ((ze4 S k) j) < zq od false ((ze4 S k) i) from b4), Nat.max_eq_right (by omega)] at es
                      refine y_aload_n (pc' := 105) hB dc_M_climb_104 rfl rfl 3 rfl ?_
                      refine f_M_longest (pc' := 108) hB dc_M_climb_105 rfl q_646 ?_
                      refine y_iload (pc' := 110) hB dc_M_climb_108 rfl 1 rfl ?_
                      refine y_aload_n (pc' := 111) hB dc_M_climb_110 rfl rfl 3 rfl ?_
                      refine f_M_longest (pc' := 114) hB dc_M_climb_111 rfl q_646 ?_
                      refine y_iload (pc' := 116) hB dc_M_climb_114 rfl 0 rfl ?_
                      refine y_iald (c := 30) (n := 1024) (j := j) (pc' := 117) hB dc_M_climb_116 rfl (by decide) rfl (by omega) (by decide) ?_
                      refine y_topi (y := nI (g j)) (by rw [gI_same]; exact j2 j b2) ?_
                      refine y_iconst (v := nI 1) (pc' := 118) hB dc_M_climb_117 rfl rfl ?_
                      refine n_iadd (x := g j) (y := 1) (pc' := 119) hB dc_M_climb_118 rfl ?_
                      refine y_iast (c := 30) (n := 1024) (j := i) (pc' := 120) hB dc_M_climb_119 rfl (by decide) rfl (by omega) (by decide) ?_
                      rw [gI_same, sI_sI]
                      refine n_inc (q := 0) (z := 1) (pc' := 123) (lv' := [(5, .int (nI (j + 1))), (4, .int (nI (i))), (3, .int (nI (zmost g i))), (0, .ref (o.G.ad (24))), (1, .int (nI (k))), (2, .int (nI (od)))]) hB hm dc_M_climb_120 rfl rfl (by decide) rfl ?_
                      refine y_goto (tg := 45) hB dc_M_climb_123 rfl ?_
                      refine y_sub [0, 1, 2, 3, 4, 5] rfl ?_
                      refine ih2 (j + 1) _ (by omega) (by omega) (fun t ht => ?_) ?_
                      · unfold upd; rw [if_neg (by omega)]; exact j2 t ht
                      · unfold upd; rw [if_pos rfl, es]
            refine inner (i + 1) 0 _ (by omega) (by omega) (fun t ht => ?_) ?_
            · unfold upd; rw [if_neg (by omega)]; exact k2 t ht
            · unfold upd; rw [if_pos rfl]; rfl
      have h0 := outer (n + 1) 0 (gI (yx S 0) 30) (by omega) (by omega) (fun t ht => by omega)
      rw [sI_self] at h0
      exact h0
    · exact absurd rfl c2
