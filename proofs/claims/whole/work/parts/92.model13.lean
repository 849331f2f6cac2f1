/-! REFERENCE: number, filled -/
theorem dc_M_number_0 : decode mb_M_number 0 = .ok (.aload_n 0, 1) := by decide +kernel
theorem dc_M_number_1 : decode mb_M_number 1 = .ok (.iload_n 1, 1) := by decide +kernel
theorem dc_M_number_2 : decode mb_M_number 2 = .ok (.invokevirtual 56, 3) := by decide +kernel
theorem dc_M_number_5 : decode mb_M_number 5 = .ok (.ifCond .eq 4, 3) := by decide +kernel
theorem dc_M_number_8 : decode mb_M_number 8 = .ok (.return_, 1) := by decide +kernel
theorem dc_M_number_9 : decode mb_M_number 9 = .ok (.iconst 0, 1) := by decide +kernel
theorem dc_M_number_10 : decode mb_M_number 10 = .ok (.istore_n 2, 1) := by decide +kernel
theorem dc_M_number_11 : decode mb_M_number 11 = .ok (.iload_n 2, 1) := by decide +kernel
theorem dc_M_number_12 : decode mb_M_number 12 = .ok (.aload_n 0, 1) := by decide +kernel
theorem dc_M_number_13 : decode mb_M_number 13 = .ok (.getfield 17, 3) := by decide +kernel
theorem dc_M_number_16 : decode mb_M_number 16 = .ok (.iload_n 1, 1) := by decide +kernel
theorem dc_M_number_17 : decode mb_M_number 17 = .ok (.iaload, 1) := by decide +kernel
theorem dc_M_number_18 : decode mb_M_number 18 = .ok (.if_icmp .ge 22, 3) := by decide +kernel
theorem dc_M_number_21 : decode mb_M_number 21 = .ok (.aload_n 0, 1) := by decide +kernel
theorem dc_M_number_22 : decode mb_M_number 22 = .ok (.getfield 13, 3) := by decide +kernel
theorem dc_M_number_25 : decode mb_M_number 25 = .ok (.sipush 1024, 3) := by decide +kernel
theorem dc_M_number_28 : decode mb_M_number 28 = .ok (.iload_n 1, 1) := by decide +kernel
theorem dc_M_number_29 : decode mb_M_number 29 = .ok (.imul, 1) := by decide +kernel
theorem dc_M_number_30 : decode mb_M_number 30 = .ok (.iload_n 2, 1) := by decide +kernel
theorem dc_M_number_31 : decode mb_M_number 31 = .ok (.iadd, 1) := by decide +kernel
theorem dc_M_number_32 : decode mb_M_number 32 = .ok (.iload_n 2, 1) := by decide +kernel
theorem dc_M_number_33 : decode mb_M_number 33 = .ok (.iastore, 1) := by decide +kernel
theorem dc_M_number_34 : decode mb_M_number 34 = .ok (.iinc 2 1, 3) := by decide +kernel
theorem dc_M_number_37 : decode mb_M_number 37 = .ok (.goto (-26), 3) := by decide +kernel
theorem dc_M_number_40 : decode mb_M_number 40 = .ok (.return_, 1) := by decide +kernel
set_option maxHeartbeats 4000000 in
set_option maxRecDepth 100000 in
theorem ct_M_number (l : Launch) (g : YG) (S : YS) (k n : Nat) (hk : k < 4) (hn : n ≤ 1024) (hc : gI S 27 k = nI n)  : yC l mn_M_number mb_M_number 3 none 1 g [.ref (g.ad (24)), .int (nI (k))] S (fun v S' => ∃ T : Nat → Int32, v = none ∧ S' = sI (yx S 0) 26 T ∧ (∀ j, j < n → T (1024 * k + j) = nI j) ∧ (∀ j, j < 1024 * k ∨ 1024 * k + n ≤ j → T j = gI S 26 j)) := by
  refine yC_of (by decide) (Nat.le_of_ble_eq_true rfl) ?_
  intro o hl hg hB0 hE
  subst hl
  subst hg
  have hB : yB o mb_M_number "OrderBenchModel" := hB0
  have hm := hE.1
  show yW o (S) 0 [(0, .ref (o.G.ad (24))), (1, .int (nI (k)))] []
  refine y_aload_n (pc' := 1) hB dc_M_number_0 rfl rfl 0 rfl ?_
  refine y_iload_n (pc' := 2) hB dc_M_number_1 rfl rfl 1 rfl ?_
  refine y_callV (c := 24) (ci := 4) (As := [.int (nI (k))]) (rest := []) (pc' := 5) hB hE (ct_M_noRow o.l o.G S (nI k) (zgr_of hk)) mm_M_noRow q_672 q_674 qs_12 (by decide) rfl rfl dc_M_number_2 rfl (by decide) rfl rfl (Nat.le_of_ble_eq_true rfl) (fun v S' hpost => ?_)
  obtain ⟨rfl, hSS⟩ := hpost
  rw [hSS]
  clear hSS S'
  show yW o (yx S 0) 5 [(0, .ref (o.G.ad (24))), (1, .int (nI (k)))] [.int (0)]
  refine y_if_eq (x := 0) (pc' := 8) (tg := 9) hB dc_M_number_5 rfl rfl (fun b1 => ?_) (fun b1 => ?_)
  · refine y_iconst (v := nI 0) (pc' := 10) hB dc_M_number_9 rfl rfl ?_
    refine y_istore_n (pc' := 11) (lv' := [(2, .int (nI (0))), (0, .ref (o.G.ad (24))), (1, .int (nI (k)))]) hB hm dc_M_number_10 rfl rfl (by decide) rfl ?_
    have loop : ∀ (d : Nat) (i : Nat) (T : Nat → Int32), n - i < d → i ≤ n → (∀ j, j < i → T (1024 * k + j) = nI j) → (∀ j, j < 1024 * k ∨ 1024 * k + i ≤ j → T j = gI S 26 j) → yW o (sI (yx S 0) 26 T) 11 [(2, .int (nI (i))), (0, .ref (o.G.ad (24))), (1, .int (nI (k)))] [] := by
      intro d
      induction d with
      | zero => intro i T hd; omega
      | succ d ih =>
        intro i T hd h1 h2 h3
        refine y_iload_n (pc' := 12) hB dc_M_number_11 rfl rfl 0 rfl ?_
        refine y_aload_n (pc' := 13) hB dc_M_number_12 rfl rfl 1 rfl ?_
        refine f_M_sizes (pc' := 16) hB dc_M_number_13 rfl q_642 ?_
        refine y_iload_n (pc' := 17) hB dc_M_number_16 rfl rfl 2 rfl ?_
        refine y_iald (c := 27) (n := 4) (j := k) (pc' := 18) hB dc_M_number_17 rfl (by decide) rfl (by omega) (by decide) ?_
        refine y_topi (y := nI (n)) (by rw [gI_sI, if_neg (by decide)]; exact hc) ?_
        refine n_icmp_ge (pc' := 21) (tg := 40) hB dc_M_number_18 rfl rfl (by omega) (by omega) (fun b2 => ?_) (fun b2 => ?_)
        · have e : i = n := by omega
          subst e
          exact y_vret hB hE dc_M_number_40 ⟨T, rfl, rfl, h2, h3⟩
        · refine y_aload_n (pc' := 22) hB dc_M_number_21 rfl rfl 1 rfl ?_
          refine f_M_tags (pc' := 25) hB dc_M_number_22 rfl q_641 ?_
          refine y_sipush (v := nI 1024) (pc' := 28) hB dc_M_number_25 rfl (by decide) ?_
          refine y_iload_n (pc' := 29) hB dc_M_number_28 rfl rfl 2 rfl ?_
          refine n_imul (x := 1024) (y := k) (pc' := 30) hB dc_M_number_29 rfl ?_
          refine y_iload_n (pc' := 31) hB dc_M_number_30 rfl rfl 0 rfl ?_
          refine n_iadd (x := 1024 * k) (y := i) (pc' := 32) hB dc_M_number_31 rfl ?_
          refine y_iload_n (pc' := 33) hB dc_M_number_32 rfl rfl 0 rfl ?_
          refine y_iast (c := 26) (n := 4096) (j := (1024 * k) + i) (pc' := 34) hB dc_M_number_33 rfl (by decide) rfl (by omega) (by decide) ?_
          rw [gI_same, sI_sI]
          refine n_inc (q := 0) (z := 1) (pc' := 37) (lv' := [(2, .int (nI (i + 1))), (0, .ref (o.G.ad (24))), (1, .int (nI (k)))]) hB hm dc_M_number_34 rfl rfl (by decide) rfl ?_
          refine y_goto (tg := 11) hB dc_M_number_37 rfl ?_
          refine y_sub [0, 1, 2] rfl ?_
          refine ih (i + 1) _ (by omega) b2 (fun j hj => ?_) (fun j hj => ?_)
          · unfold upd
            by_cases e : j = i
            · rw [if_pos (by omega), e]
            · rw [if_neg (by omega)]; exact h2 j (by omega)
          · unfold upd
            rw [if_neg (by omega)]; exact h3 j (by omega)
    have h0 := loop (n + 1) 0 (gI (yx S 0) 26) (by omega) (by omega) (fun j hj => by omega) (fun j _ => rfl)
    rw [sI_self] at h0
    exact h0
  · exact absurd rfl b1
