/-! LAW: its loop -/
theorem dc_L_law_0 : decode code 0 = .ok (.new 8, 3) := by decide +kernel
theorem dc_L_law_3 : decode code 3 = .ok (.dup, 1) := by decide +kernel
theorem dc_L_law_4 : decode code 4 = .ok (.invokespecial 88, 3) := by decide +kernel
theorem dc_L_law_7 : decode code 7 = .ok (.astore_n 1, 1) := by decide +kernel
theorem dc_L_law_8 : decode code 8 = .ok (.new 89, 3) := by decide +kernel
theorem dc_L_law_11 : decode code 11 = .ok (.dup, 1) := by decide +kernel
theorem dc_L_law_12 : decode code 12 = .ok (.invokespecial 91, 3) := by decide +kernel
theorem dc_L_law_15 : decode code 15 = .ok (.astore_n 2, 1) := by decide +kernel
theorem dc_L_law_16 : decode code 16 = .ok (.iconst 1, 1) := by decide +kernel
theorem dc_L_law_17 : decode code 17 = .ok (.newarray .long, 2) := by decide +kernel
theorem dc_L_law_19 : decode code 19 = .ok (.astore_n 3, 1) := by decide +kernel
theorem dc_L_law_20 : decode code 20 = .ok (.iconst 0, 1) := by decide +kernel
theorem dc_L_law_21 : decode code 21 = .ok (.istore 4, 2) := by decide +kernel
theorem dc_L_law_23 : decode code 23 = .ok (.iload 4, 2) := by decide +kernel
theorem dc_L_law_25 : decode code 25 = .ok (.aload_n 0, 1) := by decide +kernel
theorem dc_L_law_26 : decode code 26 = .ok (.arraylength, 1) := by decide +kernel
theorem dc_L_law_27 : decode code 27 = .ok (.bipush 7, 2) := by decide +kernel
theorem dc_L_law_29 : decode code 29 = .ok (.isub, 1) := by decide +kernel
theorem dc_L_law_30 : decode code 30 = .ok (.if_icmp .gt 1576, 3) := by decide +kernel
theorem dc_L_law_33 : decode code 33 = .ok (.aload_n 0, 1) := by decide +kernel
theorem dc_L_law_34 : decode code 34 = .ok (.iload 4, 2) := by decide +kernel
theorem dc_L_law_36 : decode code 36 = .ok (.iaload, 1) := by decide +kernel
theorem dc_L_law_37 : decode code 37 = .ok (.bipush 31, 2) := by decide +kernel
theorem dc_L_law_39 : decode code 39 = .ok (.iand, 1) := by decide +kernel
theorem dc_L_law_40 : decode code 40 = .ok (.tableswitch 1560 0 20 #[100, 212, 330, 378, 438, 474, 522, 578, 645, 713, 773, 786, 861, 929, 997, 1077, 1145, 1285, 1377, 1445, 1505], 100) := by decide +kernel
theorem dc_L_law_813 : decode code 813 = .ok (.aload_n 1, 1) := by decide +kernel
theorem dc_L_law_814 : decode code 814 = .ok (.invokevirtual 137, 3) := by decide +kernel
theorem dc_L_law_817 : decode code 817 = .ok (.aload_n 2, 1) := by decide +kernel
theorem dc_L_law_818 : decode code 818 = .ok (.invokevirtual 141, 3) := by decide +kernel
theorem dc_L_law_821 : decode code 821 = .ok (.if_icmp .eq 779, 3) := by decide +kernel
theorem dc_L_law_824 : decode code 824 = .ok (.iconst 0, 1) := by decide +kernel
theorem dc_L_law_825 : decode code 825 = .ok (.ireturn, 1) := by decide +kernel
theorem dc_L_law_1600 : decode code 1600 = .ok (.iinc 4 7, 3) := by decide +kernel
theorem dc_L_law_1603 : decode code 1603 = .ok (.goto (-1580), 3) := by decide +kernel
theorem dc_L_law_1606 : decode code 1606 = .ok (.iconst 1, 1) := by decide +kernel
theorem dc_L_law_1607 : decode code 1607 = .ok (.ireturn, 1) := by decide +kernel
set_option maxHeartbeats 4000000 in
set_option maxRecDepth 100000 in
theorem lg_within {o : YO} {b L : Nat} {xs : Nat → Int32} (hLw : yLw o b L xs) (hR : yRm o 0 0) (i : Nat) (S : YS) (hI : yInv S) (kk : ∀ S2 : YS, yInv S2 → yW o S2 1600 [(4, .int (nI (i))), (3, .ref (o.G.ad (31))), (2, .ref (o.G.ad (24))), (1, .ref (o.G.ad (0))), (0, .ref (b))] []) : yW o S 813 [(4, .int (nI (i))), (3, .ref (o.G.ad (31))), (2, .ref (o.G.ad (24))), (1, .ref (o.G.ad (0))), (0, .ref (b))] [] := by
  have hB := hLw.1
  have hm := hLw.2.1
  refine y_aload_n (pc' := 814) hB dc_L_law_813 rfl rfl 3 rfl ?_
  refine y_gV (c := 0) (ci := 0) (As := []) (rest := []) (pc' := 817) hB (hLw.2.2.1 _ _ (by decide) (by decide)) hR (ct_B_within o.l o.G S hI.2.2) mm_B_within q_124 q_125 q_126 (by decide) rfl rfl dc_L_law_814 rfl rfl rfl (Nat.le_of_ble_eq_true rfl) (fun v S' hpost => ?_)
  obtain ⟨rfl, hSS⟩ := hpost
  rw [hSS]
  clear hSS S'
  show yW o (S) 817 [(4, .int (nI (i))), (3, .ref (o.G.ad (31))), (2, .ref (o.G.ad (24))), (1, .ref (o.G.ad (0))), (0, .ref (b))] [.int (1)]
  refine y_aload_n (pc' := 818) hB dc_L_law_817 rfl rfl 2 rfl ?_
  refine y_gV (c := 24) (ci := 4) (As := []) (rest := [.int (1)]) (pc' := 821) hB (hLw.2.2.1 _ _ (by decide) (by decide)) hR (ct_M_within o.l o.G S) mm_M_within q_761 q_762 q_763 (by decide) rfl rfl dc_L_law_818 rfl rfl rfl (Nat.le_of_ble_eq_true rfl) (fun v S' hpost => ?_)
  obtain ⟨rfl, hSS⟩ := hpost
  rw [hSS]
  clear hSS S'
  show yW o (yx S 0) 821 [(4, .int (nI (i))), (3, .ref (o.G.ad (31))), (2, .ref (o.G.ad (24))), (1, .ref (o.G.ad (0))), (0, .ref (b))] [.int (1), .int (1)]
  refine y_icmp_eq (x := 1) (y := 1) (pc' := 824) (tg := 1600) hB dc_L_law_821 rfl rfl (fun b1 => ?_) (fun b1 => ?_)
  · exact kk _ (hI.O (mO_yx S 0))
  · exact absurd rfl b1
set_option maxHeartbeats 4000000 in
set_option maxRecDepth 100000 in
theorem lg_step {o : YO} {b L : Nat} {xs : Nat → Int32} (hLw : yLw o b L xs) (i : Nat) (S : YS) (kk : yW o S 23 [(4, .int (nI (i + 7))), (3, .ref (o.G.ad (31))), (2, .ref (o.G.ad (24))), (1, .ref (o.G.ad (0))), (0, .ref (b))] []) : yW o S 1600 [(4, .int (nI (i))), (3, .ref (o.G.ad (31))), (2, .ref (o.G.ad (24))), (1, .ref (o.G.ad (0))), (0, .ref (b))] [] := by
  have hB := hLw.1
  have hm := hLw.2.1
  refine n_inc (q := 0) (z := 7) (pc' := 1603) (lv' := [(4, .int (nI (i + 7))), (3, .ref (o.G.ad (31))), (2, .ref (o.G.ad (24))), (1, .ref (o.G.ad (0))), (0, .ref (b))]) hB hm dc_L_law_1600 rfl rfl (by decide) rfl ?_
  refine y_goto (tg := 23) hB dc_L_law_1603 rfl ?_
  exact kk
set_option maxHeartbeats 4000000 in
set_option maxRecDepth 100000 in
theorem lg_turn {o : YO} {b L : Nat} {xs : Nat → Int32} (hLw : yLw o b L xs) (hR : yRm o 1 6) (h00 : yRm o 0 0) (i : Nat) (hi3 : i ≤ 3600) (S : YS) (hI : yInv S) (hend : ∀ (S : YS) (lv : List (Nat × Value)), yW o S 1606 lv []) (hnext : i + 7 ≤ L → ∀ S2 : YS, yInv S2 → yW (yat o (o.cells + 1) (o.slots + 6)) S2 1600 [(4, .int (nI (i))), (3, .ref (o.G.ad (31))), (2, .ref (o.G.ad (24))), (1, .ref (o.G.ad (0))), (0, .ref (b))] []) : yW o S 23 [(4, .int (nI (i))), (3, .ref (o.G.ad (31))), (2, .ref (o.G.ad (24))), (1, .ref (o.G.ad (0))), (0, .ref (b))] [] := by
  have hB := hLw.1
  have hm := hLw.2.1
  have hL := hLw.2.2.2.2.2.2.1
  refine y_iload (pc' := 25) hB dc_L_law_23 rfl 0 rfl ?_
  refine y_aload_n (pc' := 26) hB dc_L_law_25 rfl rfl 4 rfl ?_
  refine y_slen (pc' := 27) hLw dc_L_law_26 rfl ?_
  refine y_bipush (v := nI 7) (pc' := 29) hB dc_L_law_27 rfl (by decide) ?_
  show yW o (S) 29 [(4, .int (nI (i))), (3, .ref (o.G.ad (31))), (2, .ref (o.G.ad (24))), (1, .ref (o.G.ad (0))), (0, .ref (b))] [.int (nI 7), .int (nI L), .int (nI (i))]
  refine y_isub (v := (nI L) - (nI 7)) (pc' := 30) hB dc_L_law_29 rfl rfl ?_
  refine y_icmp_gt (x := nI (i)) (y := (nI L) - (nI 7)) (pc' := 33) (tg := 1606) hB dc_L_law_30 rfl rfl (fun b1 => ?_) (fun b1 => ?_)
  · exact hend S _
  · have hi : i + 7 ≤ L := Nat.le_of_not_lt fun q => b1 ((zi_sub7 hL (by omega)).mpr q)
    have hnx := hnext hi
    refine y_aload_n (pc' := 34) hB dc_L_law_33 rfl rfl 4 rfl ?_
    refine y_iload (pc' := 36) hB dc_L_law_34 rfl 0 rfl ?_
    refine y_sld (j := i) (pc' := 37) hLw dc_L_law_36 rfl (by omega) ?_
    refine y_bipush (v := nI 31) (pc' := 39) hB dc_L_law_37 rfl (by decide) ?_
    refine y_iand (v := (xs (i)) &&& (nI (31))) (pc' := 40) hB dc_L_law_39 rfl rfl ?_
    obtain ⟨n, hn, e⟩ := zi_and31 (xs i)
    refine y_topi (y := nI n) e ?_
    rcases (show n = 0 ∨ n = 1 ∨ n = 2 ∨ n = 3 ∨ n = 4 ∨ n = 5 ∨ n = 6 ∨ n = 7 ∨ n = 8 ∨ n = 9 ∨ n = 10 ∨ n = 11 ∨ n = 12 ∨ n = 13 ∨ n = 14 ∨ n = 15 ∨ n = 16 ∨ n = 17 ∨ n = 18 ∨ n = 19 ∨ n = 20 ∨ 21 ≤ n by omega) with h | h | h | h | h | h | h | h | h | h | h | h | h | h | h | h | h | h | h | h | h | h
    · subst h
      refine y_tableIn (off := 100) (tg := 140) hB dc_L_law_40 (by decide) (by decide) rfl rfl ?_
      exact lg_add hLw hR i hi S hI hnx
    · subst h
      refine y_tableIn (off := 212) (tg := 252) hB dc_L_law_40 (by decide) (by decide) rfl rfl ?_
      exact lg_fill hLw hR i hi S hI hnx
    · subst h
      refine y_tableIn (off := 330) (tg := 370) hB dc_L_law_40 (by decide) (by decide) rfl rfl ?_
      exact lg_cut hLw hR i hi S hI hnx
    · subst h
      refine y_tableIn (off := 378) (tg := 418) hB dc_L_law_40 (by decide) (by decide) rfl rfl ?_
      exact lg_swap hLw hR i hi S hI hnx
    · subst h
      refine y_tableIn (off := 438) (tg := 478) hB dc_L_law_40 (by decide) (by decide) rfl rfl ?_
      exact lg_number hLw hR i hi S hI hnx
    · subst h
      refine y_tableIn (off := 474) (tg := 514) hB dc_L_law_40 (by decide) (by decide) rfl rfl ?_
      exact lg_copy hLw hR i hi S hI hnx
    · subst h
      refine y_tableIn (off := 522) (tg := 562) hB dc_L_law_40 (by decide) (by decide) rfl rfl ?_
      exact lg_size hLw hR i hi S hI hnx
    · subst h
      refine y_tableIn (off := 578) (tg := 618) hB dc_L_law_40 (by decide) (by decide) rfl rfl ?_
      exact lg_key hLw hR i hi S hI hnx
    · subst h
      refine y_tableIn (off := 645) (tg := 685) hB dc_L_law_40 (by decide) (by decide) rfl rfl ?_
      exact lg_tag hLw hR i hi S hI hnx
    · subst h
      refine y_tableIn (off := 713) (tg := 753) hB dc_L_law_40 (by decide) (by decide) rfl rfl ?_
      exact lg_sort hLw hR i hi S hI hnx
    · subst h
      refine y_tableIn (off := 773) (tg := 813) hB dc_L_law_40 (by decide) (by decide) rfl rfl ?_
      exact lg_within hLw h00 i S hI (fun S2 h2 => y_wide (c := o.cells + 1) (s := o.slots + 6) (by omega) (by omega) (hnx S2 h2))
    · subst h
      refine y_tableIn (off := 786) (tg := 826) hB dc_L_law_40 (by decide) (by decide) rfl rfl ?_
      exact lg_sorted hLw hR i hi S hI hnx
    · subst h
      refine y_tableIn (off := 861) (tg := 901) hB dc_L_law_40 (by decide) (by decide) rfl rfl ?_
      exact lg_runs hLw hR i hi S hI hnx
    · subst h
      refine y_tableIn (off := 929) (tg := 969) hB dc_L_law_40 (by decide) (by decide) rfl rfl ?_
      exact lg_inversions hLw hR i hi S hI hnx
    · subst h
      refine y_tableIn (off := 997) (tg := 1037) hB dc_L_law_40 (by decide) (by decide) rfl rfl ?_
      exact lg_ranked hLw hR i hi S hI hnx
    · subst h
      refine y_tableIn (off := 1077) (tg := 1117) hB dc_L_law_40 (by decide) (by decide) rfl rfl ?_
      exact lg_climb hLw hR i hi S hI hnx
    · subst h
      refine y_tableIn (off := 1145) (tg := 1185) hB dc_L_law_40 (by decide) (by decide) rfl rfl ?_
      exact lg_find hLw hR i hi S hI hnx
    · subst h
      refine y_tableIn (off := 1285) (tg := 1325) hB dc_L_law_40 (by decide) (by decide) rfl rfl ?_
      exact lg_merge hLw hR i hi S hI hnx
    · subst h
      refine y_tableIn (off := 1377) (tg := 1417) hB dc_L_law_40 (by decide) (by decide) rfl rfl ?_
      exact lg_single hLw hR i hi S hI hnx
    · subst h
      refine y_tableIn (off := 1445) (tg := 1485) hB dc_L_law_40 (by decide) (by decide) rfl rfl ?_
      exact lg_front hLw hR i hi S hI hnx
    · subst h
      refine y_tableIn (off := 1505) (tg := 1545) hB dc_L_law_40 (by decide) (by decide) rfl rfl ?_
      exact lg_mark hLw hR i hi S hI hnx
    · refine y_tableOut (tg := 1600) hB dc_L_law_40 (Or.inr (by rw [nI_toInt (by omega)]; omega)) rfl ?_
      exact y_wide (c := o.cells + 1) (s := o.slots + 6) (by omega) (by omega) (hnx S hI)
theorem lg_loop {o : YO} {b L : Nat} {xs : Nat → Int32} (hLw : yLw o b L xs) (hR : o.R = room_1) (hend : ∀ (c s : Nat) (S : YS) (lv : List (Nat × Value)), c ≤ 601024 → s ≤ 7293034 → yW (yat o c s) S 1606 lv []) : ∀ (d t : Nat) (S : YS) (c s : Nat), L - 7 * t < d → 7 * t ≤ 3591 → yInv S → c + (514 - t) ≤ 601024 → s + 6 * (514 - t) ≤ 7293034 → yW (yat o c s) S 23 [(4, .int (nI (7 * t))), (3, .ref (o.G.ad (31))), (2, .ref (o.G.ad (24))), (1, .ref (o.G.ad (0))), (0, .ref (b))] [] := by
  have hL := hLw.2.2.2.2.2.2.1
  intro d
  induction d with
  | zero => intro t S c s h; omega
  | succ d ih =>
    intro t S c s hd ht hI hc hs
    have r1 : yRm (yat o c s) 1 6 := by
      refine ⟨?_, ?_⟩
      · show c + 1 ≤ o.R.cells
        rw [hR]
        show c + 1 ≤ 601024
        omega
      · show s + 6 ≤ o.R.slots
        rw [hR]
        show s + 6 ≤ 7293034
        omega
    have r0 : yRm (yat o c s) 0 0 := ⟨Nat.le_of_succ_le r1.1, Nat.le_trans (Nat.le_add_right _ 6) r1.2⟩
    refine lg_turn (o := yat o c s) hLw r1 r0 (7 * t) (by omega) S hI (fun S lv => hend c s S lv (by omega) (by omega)) (fun hi S2 h2 => ?_)
    exact lg_step (o := yat o (c + 1) (s + 6)) hLw (7 * t) S2 (ih (t + 1) S2 (c + 1) (s + 6) (by omega) (by omega) h2 (by omega) (by omega))
theorem lg_end {o : YO} {b : Nat} (hB : yB o code "OrderBenchLaw") (hR : o.R = room_1) (hQ : o.Q = lw_Z o.below #[Value.ref b] o.s) (hA : o.args = #[Value.ref b]) (hG : o.G.B = o.s.heap.size) (hr : o.meth.sig.returnType = ret) (hc : o.cells ≤ 601024) (hs : o.slots ≤ 7293034) (S : YS) (lv : List (Nat × Value)) : yW o S 1606 lv [] := by
  refine y_iconst (v := 1) (pc' := 1607) hB dc_L_law_1606 rfl rfl ?_
  intro ls H locs hl hH
  rw [hQ, hA, hR]
  refine va_forget (fun q hq => by
    have z := hH.2.2.2 q hq
    unfold yA at z
    rw [← hG]
    exact z) (W.widen hc hs ?_)
  exact lw_ret hB.1 hB.2.1 hr hB.2.2.2.1 dc_L_law_1607
