/-! MERGING: join -/
theorem dc_Me_join_0 : decode mb_Me_join 0 = .ok (.iload_n 1, 1) := by decide +kernel
theorem dc_Me_join_1 : decode mb_Me_join 1 = .ok (.istore 6, 2) := by decide +kernel
theorem dc_Me_join_3 : decode mb_Me_join 3 = .ok (.iload_n 2, 1) := by decide +kernel
theorem dc_Me_join_4 : decode mb_Me_join 4 = .ok (.istore 7, 2) := by decide +kernel
theorem dc_Me_join_6 : decode mb_Me_join 6 = .ok (.iconst 0, 1) := by decide +kernel
theorem dc_Me_join_7 : decode mb_Me_join 7 = .ok (.istore 8, 2) := by decide +kernel
theorem dc_Me_join_9 : decode mb_Me_join 9 = .ok (.iload_n 1, 1) := by decide +kernel
theorem dc_Me_join_10 : decode mb_Me_join 10 = .ok (.istore 9, 2) := by decide +kernel
theorem dc_Me_join_12 : decode mb_Me_join 12 = .ok (.iload 9, 2) := by decide +kernel
theorem dc_Me_join_14 : decode mb_Me_join 14 = .ok (.iload_n 3, 1) := by decide +kernel
theorem dc_Me_join_15 : decode mb_Me_join 15 = .ok (.if_icmp .ge 73, 3) := by decide +kernel
theorem dc_Me_join_18 : decode mb_Me_join 18 = .ok (.iload 6, 2) := by decide +kernel
theorem dc_Me_join_20 : decode mb_Me_join 20 = .ok (.iload_n 2, 1) := by decide +kernel
theorem dc_Me_join_21 : decode mb_Me_join 21 = .ok (.if_icmp .ge 23, 3) := by decide +kernel
theorem dc_Me_join_24 : decode mb_Me_join 24 = .ok (.iload 7, 2) := by decide +kernel
theorem dc_Me_join_26 : decode mb_Me_join 26 = .ok (.iload_n 3, 1) := by decide +kernel
theorem dc_Me_join_27 : decode mb_Me_join 27 = .ok (.if_icmp .ge 42, 3) := by decide +kernel
theorem dc_Me_join_30 : decode mb_Me_join 30 = .ok (.aload 5, 2) := by decide +kernel
theorem dc_Me_join_32 : decode mb_Me_join 32 = .ok (.aload_n 0, 1) := by decide +kernel
theorem dc_Me_join_33 : decode mb_Me_join 33 = .ok (.iload 7, 2) := by decide +kernel
theorem dc_Me_join_35 : decode mb_Me_join 35 = .ok (.aload_n 0, 1) := by decide +kernel
theorem dc_Me_join_36 : decode mb_Me_join 36 = .ok (.iload 6, 2) := by decide +kernel
theorem dc_Me_join_38 : decode mb_Me_join 38 = .ok (.invokevirtual 29, 3) := by decide +kernel
theorem dc_Me_join_41 : decode mb_Me_join 41 = .ok (.ifCond .eq 28, 3) := by decide +kernel
theorem dc_Me_join_44 : decode mb_Me_join 44 = .ok (.aload 4, 2) := by decide +kernel
theorem dc_Me_join_46 : decode mb_Me_join 46 = .ok (.iload 9, 2) := by decide +kernel
theorem dc_Me_join_48 : decode mb_Me_join 48 = .ok (.aload_n 0, 1) := by decide +kernel
theorem dc_Me_join_49 : decode mb_Me_join 49 = .ok (.iload 7, 2) := by decide +kernel
theorem dc_Me_join_51 : decode mb_Me_join 51 = .ok (.invokevirtual 35, 3) := by decide +kernel
theorem dc_Me_join_54 : decode mb_Me_join 54 = .ok (.iinc 7 1, 3) := by decide +kernel
theorem dc_Me_join_57 : decode mb_Me_join 57 = .ok (.iload 8, 2) := by decide +kernel
theorem dc_Me_join_59 : decode mb_Me_join 59 = .ok (.iload_n 2, 1) := by decide +kernel
theorem dc_Me_join_60 : decode mb_Me_join 60 = .ok (.iload 6, 2) := by decide +kernel
theorem dc_Me_join_62 : decode mb_Me_join 62 = .ok (.isub, 1) := by decide +kernel
theorem dc_Me_join_63 : decode mb_Me_join 63 = .ok (.iadd, 1) := by decide +kernel
theorem dc_Me_join_64 : decode mb_Me_join 64 = .ok (.istore 8, 2) := by decide +kernel
theorem dc_Me_join_66 : decode mb_Me_join 66 = .ok (.goto 16, 3) := by decide +kernel
theorem dc_Me_join_69 : decode mb_Me_join 69 = .ok (.aload 4, 2) := by decide +kernel
theorem dc_Me_join_71 : decode mb_Me_join 71 = .ok (.iload 9, 2) := by decide +kernel
theorem dc_Me_join_73 : decode mb_Me_join 73 = .ok (.aload_n 0, 1) := by decide +kernel
theorem dc_Me_join_74 : decode mb_Me_join 74 = .ok (.iload 6, 2) := by decide +kernel
theorem dc_Me_join_76 : decode mb_Me_join 76 = .ok (.invokevirtual 35, 3) := by decide +kernel
theorem dc_Me_join_79 : decode mb_Me_join 79 = .ok (.iinc 6 1, 3) := by decide +kernel
theorem dc_Me_join_82 : decode mb_Me_join 82 = .ok (.iinc 9 1, 3) := by decide +kernel
theorem dc_Me_join_85 : decode mb_Me_join 85 = .ok (.goto (-73), 3) := by decide +kernel
theorem dc_Me_join_88 : decode mb_Me_join 88 = .ok (.iload 8, 2) := by decide +kernel
theorem dc_Me_join_90 : decode mb_Me_join 90 = .ok (.ireturn, 1) := by decide +kernel
set_option maxHeartbeats 4000000 in
set_option maxRecDepth 100000 in
theorem ct_Me_join (l : Launch) (g : YG) (S : YS) (od : Nat) (tg : Bool) (c : Nat) (hJ : yJ S od tg c) (r : Nat) (hr : r < 6) (q : Nat) (hq : q < 6) (hqr : q ≠ r) (a m b : Nat) (ham : a ≤ m) (hmb : m ≤ b) (hb : b ≤ 1024) (o1 : ∀ i j, a ≤ i → i < j → j < m → zq od tg ((ye S q) i) ≤ zq od tg ((ye S q) j)) (o2 : ∀ i j, m ≤ i → i < j → j < b → zq od tg ((ye S q) i) ≤ zq od tg ((ye S q) j)) : yC l mn_Me_join mb_Me_join 10 (some .int) 4 g [.ref (g.ad (2 + q)), .int (nI (a)), .int (nI (m)), .int (nI (b)), .ref (g.ad (2 + r)), .ref (g.ad (20))] S (fun v S' => ∃ g' c', v = some (.int (nI (zc (zq od tg) (zs (ye S q) a (m - a)) (zs (ye S q) m (b - m))))) ∧ S' = yq (yz S r g') c' ∧ (∀ j, j < a ∨ b ≤ j → g' j = ye S r j) ∧ zo (zq od tg) (zs g' a (b - a)) ∧ ze (zq od tg) (zs g' a (b - a)) (zs (ye S q) a (b - a)) ∧ c' ≤ c + (b - a)) := by
  refine yC_of (by decide) (Nat.le_of_ble_eq_true rfl) ?_
  intro o hl hg hB0 hE
  subst hl
  subst hg
  have hB : yB o mb_Me_join "OrderBench$Merging" := hB0
  have hm := hE.1
  show yW o (S) 0 [(0, .ref (o.G.ad (2 + q))), (1, .int (nI (a))), (2, .int (nI (m))), (3, .int (nI (b))), (4, .ref (o.G.ad (2 + r))), (5, .ref (o.G.ad (20)))] []
  refine y_iload_n (pc' := 1) hB dc_Me_join_0 rfl rfl 1 rfl ?_
  refine y_istore (pc' := 3) (lv' := [(6, .int (nI (a))), (0, .ref (o.G.ad (2 + q))), (1, .int (nI (a))), (2, .int (nI (m))), (3, .int (nI (b))), (4, .ref (o.G.ad (2 + r))), (5, .ref (o.G.ad (20)))]) hB hm dc_Me_join_1 rfl (by decide) rfl ?_
  refine y_iload_n (pc' := 4) hB dc_Me_join_3 rfl rfl 3 rfl ?_
  refine y_istore (pc' := 6) (lv' := [(7, .int (nI (m))), (6, .int (nI (a))), (0, .ref (o.G.ad (2 + q))), (1, .int (nI (a))), (2, .int (nI (m))), (3, .int (nI (b))), (4, .ref (o.G.ad (2 + r))), (5, .ref (o.G.ad (20)))]) hB hm dc_Me_join_4 rfl (by decide) rfl ?_
  refine y_iconst (v := nI 0) (pc' := 7) hB dc_Me_join_6 rfl rfl ?_
  refine y_istore (pc' := 9) (lv' := [(8, .int (nI (0))), (7, .int (nI (m))), (6, .int (nI (a))), (0, .ref (o.G.ad (2 + q))), (1, .int (nI (a))), (2, .int (nI (m))), (3, .int (nI (b))), (4, .ref (o.G.ad (2 + r))), (5, .ref (o.G.ad (20)))]) hB hm dc_Me_join_7 rfl (by decide) rfl ?_
  refine y_iload_n (pc' := 10) hB dc_Me_join_9 rfl rfl 4 rfl ?_
  refine y_istore (pc' := 12) (lv' := [(9, .int (nI (a))), (8, .int (nI (0))), (7, .int (nI (m))), (6, .int (nI (a))), (0, .ref (o.G.ad (2 + q))), (1, .int (nI (a))), (2, .int (nI (m))), (3, .int (nI (b))), (4, .ref (o.G.ad (2 + r))), (5, .ref (o.G.ad (20)))]) hB hm dc_Me_join_10 rfl (by decide) rfl ?_
  have loop : ∀ (d : Nat) (pl T hi lo c1 : Nat) (g1 : Nat → Int64 × Int32), b - pl < d → a ≤ lo → lo ≤ m → m ≤ hi → hi ≤ b → pl + m = lo + hi → (∀ j, j < a ∨ pl ≤ j → g1 j = ye S r j) → zJ (zq od tg) (ye S q) a m b lo hi (zs g1 a (pl - a)) → T = zc (zq od tg) (zs (ye S q) a (m - a)) (zs (ye S q) m (hi - m)) → c1 ≤ c + (pl - a) → yW o (yq (yz S r g1) c1) 12 [(9, .int (nI (pl))), (8, .int (nI (T))), (7, .int (nI (hi))), (6, .int (nI (lo))), (0, .ref (o.G.ad (2 + q))), (1, .int (nI (a))), (2, .int (nI (m))), (3, .int (nI (b))), (4, .ref (o.G.ad (2 + r))), (5, .ref (o.G.ad (20)))] [] := by
    intro d
    induction d with
    | zero => intro pl T hi lo c1 g1 hd; omega
    | succ d ih =>
      intro pl T hi lo c1 g1 hd h1 h2 h3 h4 h5 h6 h7 h8 h9
      have hq1 : ye (yq (yz S r g1) c1) q = (ye S q) := ye_yz_ne S g1 hqr
      have hr1 : ye (yq (yz S r g1) c1) r = g1 := ye_yz S r g1
      have hiway : ∀ c2, c2 ≤ c1 + 1 → pl < b → hi < b → (lo < m → zq od tg ((ye S q) hi) < zq od tg ((ye S q) lo)) → yW o (yq (yz S r g1) c2) 44 [(9, .int (nI (pl))), (8, .int (nI (T))), (7, .int (nI (hi))), (6, .int (nI (lo))), (0, .ref (o.G.ad (2 + q))), (1, .int (nI (a))), (2, .int (nI (m))), (3, .int (nI (b))), (4, .ref (o.G.ad (2 + r))), (5, .ref (o.G.ad (20)))] [] := by
        intro c2 q1 q2 q3 q4
        refine y_aload (pc' := 46) hB dc_Me_join_44 rfl 8 rfl ?_
        refine y_iload (pc' := 48) hB dc_Me_join_46 rfl 0 rfl ?_
        refine y_aload_n (pc' := 49) hB dc_Me_join_48 rfl rfl 4 rfl ?_
        refine y_iload (pc' := 51) hB dc_Me_join_49 rfl 2 rfl ?_
        refine y_callV (c := 2 + r) (ci := 1) (As := [.int (nI (pl)), .ref (o.G.ad (2 + q)), .int (nI (hi))]) (rest := []) (pc' := 54) hB hE (ct_R_take o.l o.G (yq (yz S r g1) c2) r hr q hq pl hi (by omega) (by omega)) mm_R_take q_449 q_292 q_293 (by unfold yN; omega) (yk_row (by omega)).1 rfl dc_Me_join_51 rfl (by decide) rfl rfl (by decide) (fun v S' hpost => ?_)
        obtain ⟨rfl, hSS⟩ := hpost
        rw [hSS]
        clear hSS S'
        show yW o (yz (yq (yz S r g1) c2) r (va_up (ye (yq (yz S r g1) c2) r) pl (ye (yq (yz S r g1) c2) q hi))) 54 [(9, .int (nI (pl))), (8, .int (nI (T))), (7, .int (nI (hi))), (6, .int (nI (lo))), (0, .ref (o.G.ad (2 + q))), (1, .int (nI (a))), (2, .int (nI (m))), (3, .int (nI (b))), (4, .ref (o.G.ad (2 + r))), (5, .ref (o.G.ad (20)))] []
        have hS : yz (yq (yz S r g1) c2) r (va_up (ye (yq (yz S r g1) c2) r) pl (ye (yq (yz S r g1) c2) q hi)) = yq (yz S r (va_up g1 pl ((ye S q) hi))) c2 := by
          rw [ye_yq, ye_yz, ye_yq, ye_yz_ne S g1 hqr]
          show yq (yz (yz S r _) r _) c2 = _
          rw [yz_yz]
        rw [hS]
        refine n_inc (q := 2) (z := 1) (pc' := 57) (lv' := [(7, .int (nI (hi + 1))), (9, .int (nI (pl))), (8, .int (nI (T))), (6, .int (nI (lo))), (0, .ref (o.G.ad (2 + q))), (1, .int (nI (a))), (2, .int (nI (m))), (3, .int (nI (b))), (4, .ref (o.G.ad (2 + r))), (5, .ref (o.G.ad (20)))]) hB hm dc_Me_join_54 rfl rfl (by decide) rfl ?_
        refine y_iload (pc' := 59) hB dc_Me_join_57 rfl 2 rfl ?_
        refine y_iload_n (pc' := 60) hB dc_Me_join_59 rfl rfl 6 rfl ?_
        refine y_iload (pc' := 62) hB dc_Me_join_60 rfl 3 rfl ?_
        refine n_isub (x := m) (y := lo) (pc' := 63) hB dc_Me_join_62 rfl (by omega) ?_
        refine n_iadd (x := T) (y := m - lo) (pc' := 64) hB dc_Me_join_63 rfl ?_
        refine y_istore (pc' := 66) (lv' := [(8, .int (nI (T + (m - lo)))), (7, .int (nI (hi + 1))), (9, .int (nI (pl))), (6, .int (nI (lo))), (0, .ref (o.G.ad (2 + q))), (1, .int (nI (a))), (2, .int (nI (m))), (3, .int (nI (b))), (4, .ref (o.G.ad (2 + r))), (5, .ref (o.G.ad (20)))]) hB hm dc_Me_join_64 rfl (by decide) rfl ?_
        refine y_goto (tg := 82) hB dc_Me_join_66 rfl ?_
        refine n_inc (q := 2) (z := 1) (pc' := 85) (lv' := [(9, .int (nI (pl + 1))), (8, .int (nI (T + (m - lo)))), (7, .int (nI (hi + 1))), (6, .int (nI (lo))), (0, .ref (o.G.ad (2 + q))), (1, .int (nI (a))), (2, .int (nI (m))), (3, .int (nI (b))), (4, .ref (o.G.ad (2 + r))), (5, .ref (o.G.ad (20)))]) hB hm dc_Me_join_82 rfl rfl (by decide) rfl ?_
        refine y_goto (tg := 12) hB dc_Me_join_85 rfl ?_
        refine y_sub [0, 1, 2, 3, 4, 5, 6, 7, 8, 9] rfl ?_
        refine ih (pl + 1) (T + (m - lo)) (hi + 1) lo c2 _ (by omega) h1 h2 (by omega) (by omega) (by omega) (fun j qj => ?_) ?_ ?_ (by omega)
        · rw [va_up_ne _ _ (by omega)]; exact h6 j (by omega)
        · rw [zs_up_end g1 _ (by omega)]; exact zJ_hi h7 h3 q3 o1 o2 h1 q4
        · rw [zJ_inv h7 h1 h2 h3 q3 o1 q4, h8]
      have loway : ∀ c2, c2 ≤ c1 + 1 → pl < b → lo < m → (hi < b → ¬ zq od tg ((ye S q) hi) < zq od tg ((ye S q) lo)) → yW o (yq (yz S r g1) c2) 69 [(9, .int (nI (pl))), (8, .int (nI (T))), (7, .int (nI (hi))), (6, .int (nI (lo))), (0, .ref (o.G.ad (2 + q))), (1, .int (nI (a))), (2, .int (nI (m))), (3, .int (nI (b))), (4, .ref (o.G.ad (2 + r))), (5, .ref (o.G.ad (20)))] [] := by
        intro c2 q1 q2 q3 q4
        refine y_aload (pc' := 71) hB dc_Me_join_69 rfl 8 rfl ?_
        refine y_iload (pc' := 73) hB dc_Me_join_71 rfl 0 rfl ?_
        refine y_aload_n (pc' := 74) hB dc_Me_join_73 rfl rfl 4 rfl ?_
        refine y_iload (pc' := 76) hB dc_Me_join_74 rfl 3 rfl ?_
        refine y_callV (c := 2 + r) (ci := 1) (As := [.int (nI (pl)), .ref (o.G.ad (2 + q)), .int (nI (lo))]) (rest := []) (pc' := 79) hB hE (ct_R_take o.l o.G (yq (yz S r g1) c2) r hr q hq pl lo (by omega) (by omega)) mm_R_take q_449 q_292 q_293 (by unfold yN; omega) (yk_row (by omega)).1 rfl dc_Me_join_76 rfl (by decide) rfl rfl (by decide) (fun v S' hpost => ?_)
        obtain ⟨rfl, hSS⟩ := hpost
        rw [hSS]
        clear hSS S'
        show yW o (yz (yq (yz S r g1) c2) r (va_up (ye (yq (yz S r g1) c2) r) pl (ye (yq (yz S r g1) c2) q lo))) 79 [(9, .int (nI (pl))), (8, .int (nI (T))), (7, .int (nI (hi))), (6, .int (nI (lo))), (0, .ref (o.G.ad (2 + q))), (1, .int (nI (a))), (2, .int (nI (m))), (3, .int (nI (b))), (4, .ref (o.G.ad (2 + r))), (5, .ref (o.G.ad (20)))] []
        have hS : yz (yq (yz S r g1) c2) r (va_up (ye (yq (yz S r g1) c2) r) pl (ye (yq (yz S r g1) c2) q lo)) = yq (yz S r (va_up g1 pl ((ye S q) lo))) c2 := by
          rw [ye_yq, ye_yz, ye_yq, ye_yz_ne S g1 hqr]
          show yq (yz (yz S r _) r _) c2 = _
          rw [yz_yz]
        rw [hS]
        refine n_inc (q := 3) (z := 1) (pc' := 82) (lv' := [(6, .int (nI (lo + 1))), (9, .int (nI (pl))), (8, .int (nI (T))), (7, .int (nI (hi))), (0, .ref (o.G.ad (2 + q))), (1, .int (nI (a))), (2, .int (nI (m))), (3, .int (nI (b))), (4, .ref (o.G.ad (2 + r))), (5, .ref (o.G.ad (20)))]) hB hm dc_Me_join_79 rfl rfl (by decide) rfl ?_
        refine n_inc (q := 1) (z := 1) (pc' := 85) (lv' := [(9, .int (nI (pl + 1))), (6, .int (nI (lo + 1))), (8, .int (nI (T))), (7, .int (nI (hi))), (0, .ref (o.G.ad (2 + q))), (1, .int (nI (a))), (2, .int (nI (m))), (3, .int (nI (b))), (4, .ref (o.G.ad (2 + r))), (5, .ref (o.G.ad (20)))]) hB hm dc_Me_join_82 rfl rfl (by decide) rfl ?_
        refine y_goto (tg := 12) hB dc_Me_join_85 rfl ?_
        refine y_sub [0, 2, 3, 1, 4, 5, 6, 7, 8, 9] rfl ?_
        refine ih (pl + 1) T hi (lo + 1) c2 _ (by omega) (by omega) (by omega) h3 h4 (by omega) (fun j qj => ?_) ?_ h8 (by omega)
        · rw [va_up_ne _ _ (by omega)]; exact h6 j (by omega)
        · rw [zs_up_end g1 _ (by omega)]; exact zJ_lo h7 h3 h1 q3 o1 o2 q4
      refine y_iload (pc' := 14) hB dc_Me_join_12 rfl 0 rfl ?_
      refine y_iload_n (pc' := 15) hB dc_Me_join_14 rfl rfl 7 rfl ?_
      refine n_icmp_ge (pc' := 18) (tg := 88) hB dc_Me_join_15 rfl rfl (by omega) (by omega) (fun h => ?_) (fun h => ?_)
      · refine y_iload (pc' := 90) hB dc_Me_join_88 rfl 1 rfl ?_
        have e1 : pl = b := by omega
        have e2 : lo = m := by omega
        have e3 : hi = b := by omega
        rw [e1] at h6 h7
        rw [e2, e3] at h7
        rw [e3] at h8
        refine y_iret hB hE dc_Me_join_90 ⟨g1, c1, by rw [h8], rfl, h6, h7.1, ?_, by omega⟩
        have h10 := h7.2.1
        rw [show zs (ye S q) a (b - a) = zs (ye S q) a (m - a) ++ zs (ye S q) m (b - m) by rw [zs_split _ a (show m - a ≤ b - a by omega), show a + (m - a) = m by omega, show b - a - (m - a) = b - m by omega]]
        exact h10
      · refine y_iload (pc' := 20) hB dc_Me_join_18 rfl 3 rfl ?_
        refine y_iload_n (pc' := 21) hB dc_Me_join_20 rfl rfl 6 rfl ?_
        refine n_icmp_ge (pc' := 24) (tg := 44) hB dc_Me_join_21 rfl rfl (by omega) (by omega) (fun h10 => ?_) (fun h10 => ?_)
        · exact hiway c1 (by omega) h (by omega) (fun q => by omega)
        · refine y_iload (pc' := 26) hB dc_Me_join_24 rfl 2 rfl ?_
          refine y_iload_n (pc' := 27) hB dc_Me_join_26 rfl rfl 7 rfl ?_
          refine n_icmp_ge (pc' := 30) (tg := 69) hB dc_Me_join_27 rfl rfl (by omega) (by omega) (fun h11 => ?_) (fun h11 => ?_)
          · exact loway c1 (by omega) h h10 (fun q => by omega)
          · refine y_aload (pc' := 32) hB dc_Me_join_30 rfl 9 rfl ?_
            refine y_aload_n (pc' := 33) hB dc_Me_join_32 rfl rfl 4 rfl ?_
            refine y_iload (pc' := 35) hB dc_Me_join_33 rfl 2 rfl ?_
            refine y_aload_n (pc' := 36) hB dc_Me_join_35 rfl rfl 4 rfl ?_
            refine y_iload (pc' := 38) hB dc_Me_join_36 rfl 3 rfl ?_
            refine y_callV (c := 20) (ci := 2) (As := [.ref (o.G.ad (2 + q)), .int (nI (hi)), .ref (o.G.ad (2 + q)), .int (nI (lo))]) (rest := []) (pc' := 41) hB hE (ct_J_before o.l o.G (yq (yz S r g1) c1) od tg c1 (yJ_yq (yJ_yz hJ r g1) c1) q hq q hq hi lo (by omega) (by omega)) mm_J_before q_448 q_405 q_406 (by decide) rfl rfl dc_Me_join_38 rfl (by decide) rfl rfl (by decide) (fun v S' hpost => ?_)
            obtain ⟨rfl, hSS⟩ := hpost
            rw [hSS]
            clear hSS S'
            show yW o (yq (yq (yz S r g1) c1) (c1 + 1)) 41 [(9, .int (nI (pl))), (8, .int (nI (T))), (7, .int (nI (hi))), (6, .int (nI (lo))), (0, .ref (o.G.ad (2 + q))), (1, .int (nI (a))), (2, .int (nI (m))), (3, .int (nI (b))), (4, .ref (o.G.ad (2 + r))), (5, .ref (o.G.ad (20)))] [.int (yb (decide (zq od tg (ye (yq (yz S r g1) c1) q hi) < zq od tg (ye (yq (yz S r g1) c1) q lo))))]
            rw [yq_yq]
            refine y_if_eq (x := yb (decide (zq od tg (ye (yq (yz S r g1) c1) q hi) < zq od tg (ye (yq (yz S r g1) c1) q lo)))) (pc' := 44) (tg := 69) hB dc_Me_join_41 rfl rfl (fun h12 => ?_) (fun h12 => ?_)
            · rw [yb_0, decide_eq_false_iff_not, hq1] at h12
              exact loway (c1 + 1) (Nat.le_refl _) h h10 (fun _ => h12)
            · rw [yb_n, decide_eq_true_eq, hq1] at h12
              exact hiway (c1 + 1) (Nat.le_refl _) h h11 (fun _ => h12)
  have h0 := loop (b + 1) a 0 m a c (ye S r) (by omega) (Nat.le_refl _) ham (Nat.le_refl _) hmb (by omega) (fun _ _ => rfl) (by rw [Nat.sub_self, zs_zero]; exact zJ_0) (by rw [Nat.sub_self, zs_zero]; induction (zs (ye S q) a (m - a)) with | nil => rfl | cons x t ih => rw [zc_cons, ← ih]; rfl) (by omega)
  rw [yz_self, yq_self hJ] at h0
  exact h0
