/-! INSERTION: arrange -/
theorem dc_In_arrange_0 : decode mb_In_arrange 0 = .ok (.iload_n 3, 1) := by decide +kernel
theorem dc_In_arrange_1 : decode mb_In_arrange 1 = .ok (.istore 5, 2) := by decide +kernel
theorem dc_In_arrange_3 : decode mb_In_arrange 3 = .ok (.iload 5, 2) := by decide +kernel
theorem dc_In_arrange_5 : decode mb_In_arrange 5 = .ok (.iload 4, 2) := by decide +kernel
theorem dc_In_arrange_7 : decode mb_In_arrange 7 = .ok (.if_icmp .ge 68, 3) := by decide +kernel
theorem dc_In_arrange_10 : decode mb_In_arrange 10 = .ok (.aload_n 0, 1) := by decide +kernel
theorem dc_In_arrange_11 : decode mb_In_arrange 11 = .ok (.getfield 7, 3) := by decide +kernel
theorem dc_In_arrange_14 : decode mb_In_arrange 14 = .ok (.iload 5, 2) := by decide +kernel
theorem dc_In_arrange_16 : decode mb_In_arrange 16 = .ok (.laload, 1) := by decide +kernel
theorem dc_In_arrange_17 : decode mb_In_arrange 17 = .ok (.lstore 6, 2) := by decide +kernel
theorem dc_In_arrange_19 : decode mb_In_arrange 19 = .ok (.aload_n 0, 1) := by decide +kernel
theorem dc_In_arrange_20 : decode mb_In_arrange 20 = .ok (.getfield 13, 3) := by decide +kernel
theorem dc_In_arrange_23 : decode mb_In_arrange 23 = .ok (.iload 5, 2) := by decide +kernel
theorem dc_In_arrange_25 : decode mb_In_arrange 25 = .ok (.iaload, 1) := by decide +kernel
theorem dc_In_arrange_26 : decode mb_In_arrange 26 = .ok (.istore 8, 2) := by decide +kernel
theorem dc_In_arrange_28 : decode mb_In_arrange 28 = .ok (.aload_n 1, 1) := by decide +kernel
theorem dc_In_arrange_29 : decode mb_In_arrange 29 = .ok (.aload_n 0, 1) := by decide +kernel
theorem dc_In_arrange_30 : decode mb_In_arrange 30 = .ok (.iload_n 2, 1) := by decide +kernel
theorem dc_In_arrange_31 : decode mb_In_arrange 31 = .ok (.iload 5, 2) := by decide +kernel
theorem dc_In_arrange_33 : decode mb_In_arrange 33 = .ok (.lload 6, 2) := by decide +kernel
theorem dc_In_arrange_35 : decode mb_In_arrange 35 = .ok (.iload 8, 2) := by decide +kernel
theorem dc_In_arrange_37 : decode mb_In_arrange 37 = .ok (.iconst 1, 1) := by decide +kernel
theorem dc_In_arrange_38 : decode mb_In_arrange 38 = .ok (.invokevirtual 17, 3) := by decide +kernel
theorem dc_In_arrange_41 : decode mb_In_arrange 41 = .ok (.istore 9, 2) := by decide +kernel
theorem dc_In_arrange_43 : decode mb_In_arrange 43 = .ok (.aload_n 0, 1) := by decide +kernel
theorem dc_In_arrange_44 : decode mb_In_arrange 44 = .ok (.iload 9, 2) := by decide +kernel
theorem dc_In_arrange_46 : decode mb_In_arrange 46 = .ok (.iconst 1, 1) := by decide +kernel
theorem dc_In_arrange_47 : decode mb_In_arrange 47 = .ok (.iadd, 1) := by decide +kernel
theorem dc_In_arrange_48 : decode mb_In_arrange 48 = .ok (.aload_n 0, 1) := by decide +kernel
theorem dc_In_arrange_49 : decode mb_In_arrange 49 = .ok (.iload 9, 2) := by decide +kernel
theorem dc_In_arrange_51 : decode mb_In_arrange 51 = .ok (.iload 5, 2) := by decide +kernel
theorem dc_In_arrange_53 : decode mb_In_arrange 53 = .ok (.iload 9, 2) := by decide +kernel
theorem dc_In_arrange_55 : decode mb_In_arrange 55 = .ok (.isub, 1) := by decide +kernel
theorem dc_In_arrange_56 : decode mb_In_arrange 56 = .ok (.invokevirtual 23, 3) := by decide +kernel
theorem dc_In_arrange_59 : decode mb_In_arrange 59 = .ok (.aload_n 0, 1) := by decide +kernel
theorem dc_In_arrange_60 : decode mb_In_arrange 60 = .ok (.iload 9, 2) := by decide +kernel
theorem dc_In_arrange_62 : decode mb_In_arrange 62 = .ok (.lload 6, 2) := by decide +kernel
theorem dc_In_arrange_64 : decode mb_In_arrange 64 = .ok (.iload 8, 2) := by decide +kernel
theorem dc_In_arrange_66 : decode mb_In_arrange 66 = .ok (.invokevirtual 27, 3) := by decide +kernel
theorem dc_In_arrange_69 : decode mb_In_arrange 69 = .ok (.iinc 5 1, 3) := by decide +kernel
theorem dc_In_arrange_72 : decode mb_In_arrange 72 = .ok (.goto (-69), 3) := by decide +kernel
theorem dc_In_arrange_75 : decode mb_In_arrange 75 = .ok (.return_, 1) := by decide +kernel
set_option maxHeartbeats 4000000 in
set_option maxRecDepth 100000 in
theorem ct_In_arrange (l : Launch) (g : YG) (S : YS) (od : Nat) (tg : Bool) (c : Nat) (hJ : yJ S od tg c) (r : Nat) (hr : r < 6) (a s b : Nat) (has : a ≤ s) (hs : s ≤ 1024) (hb : b ≤ 1024) (ho : zo (zq od tg) (zs (ye S r) a (s - a))) (m : Nat → Nat) (hmm : ∀ i, s ≤ i → i < b → i - a < 2 ^ m i) : yC l mn_In_arrange mb_In_arrange 10 none 4 g [.ref (g.ad (2 + r)), .ref (g.ad (20)), .int (nI (a)), .int (nI (s)), .int (nI (b))] S (fun v S' => ∃ f' c', v = none ∧ S' = yq (yz S r f') c' ∧ (∀ j, j < a ∨ max s b ≤ j → f' j = ye S r j) ∧ zo (zq od tg) (zs f' a (max s b - a)) ∧ ze (zq od tg) (zs f' a (max s b - a)) (zs (ye S r) a (max s b - a)) ∧ c' ≤ c + zsm m s (b - s)) := by
  refine yC_of (by decide) (Nat.le_of_ble_eq_true rfl) ?_
  intro o hl hg hB0 hE
  subst hl
  subst hg
  have hB : yB o mb_In_arrange "OrderBench$Insertion" := hB0
  have hm := hE.1
  show yW o (S) 0 [(0, .ref (o.G.ad (2 + r))), (1, .ref (o.G.ad (20))), (2, .int (nI (a))), (3, .int (nI (s))), (4, .int (nI (b)))] []
  refine y_iload_n (pc' := 1) hB dc_In_arrange_0 rfl rfl 3 rfl ?_
  refine y_istore (pc' := 3) (lv' := [(5, .int (nI (s))), (0, .ref (o.G.ad (2 + r))), (1, .ref (o.G.ad (20))), (2, .int (nI (a))), (3, .int (nI (s))), (4, .int (nI (b)))]) hB hm dc_In_arrange_1 rfl (by decide) rfl ?_
  have loop : ∀ (d : Nat) (i c1 : Nat) (f1 : Nat → Int64 × Int32), 1024 - i < d → s ≤ i → i ≤ max s b → (∀ j, j < a ∨ i ≤ j → f1 j = ye S r j) → zo (zq od tg) (zs f1 a (i - a)) → ze (zq od tg) (zs f1 a (i - a)) (zs (ye S r) a (i - a)) → c1 ≤ c + zsm m s (i - s) → yW o (yq (yz S r f1) c1) 3 [(5, .int (nI (i))), (0, .ref (o.G.ad (2 + r))), (1, .ref (o.G.ad (20))), (2, .int (nI (a))), (3, .int (nI (s))), (4, .int (nI (b)))] [] := by
    intro d
    induction d with
    | zero => intro i c1 f1 hd; omega
    | succ d ih =>
      intro i c1 f1 hd h1 h2 h3 h4 h5 h6
      refine y_iload (pc' := 5) hB dc_In_arrange_3 rfl 0 rfl ?_
      refine y_iload (pc' := 7) hB dc_In_arrange_5 rfl 5 rfl ?_
      refine n_icmp_ge (pc' := 10) (tg := 75) hB dc_In_arrange_7 rfl rfl (by omega) (by omega) (fun h => ?_) (fun h => ?_)
      · have e1 : i = max s b := by omega
        have e2 : i - s = b - s := by omega
        rw [e1] at h3 h4 h5
        rw [e2] at h6
        exact y_vret hB hE dc_In_arrange_75 ⟨f1, c1, rfl, rfl, h3, h4, h5, h6⟩
      · have hS1 : ye (yq (yz S r f1) c1) r = f1 := ye_yz S r f1
        refine y_aload_n (pc' := 11) hB dc_In_arrange_10 rfl rfl 1 rfl ?_
        refine f_keys (r := r) (pc' := 14) hB dc_In_arrange_11 rfl (by omega) q_38 ?_
        refine y_iload (pc' := 16) hB dc_In_arrange_14 rfl 0 rfl ?_
        refine y_lald (c := 8 + r) (n := 1024) (j := i) (pc' := 17) hB dc_In_arrange_16 rfl (by unfold yN; omega) (yk_row (by omega)).2.1 (by omega) (by decide) ?_
        refine y_topl (y := (f1 i).1) (congrArg (fun z => (z i).1) hS1) ?_
        refine y_lstore (pc' := 19) (lv' := [(6, .long ((f1 i).1)), (5, .int (nI (i))), (0, .ref (o.G.ad (2 + r))), (1, .ref (o.G.ad (20))), (2, .int (nI (a))), (3, .int (nI (s))), (4, .int (nI (b)))]) hB hm dc_In_arrange_17 rfl (by decide) rfl ?_
        refine y_aload_n (pc' := 20) hB dc_In_arrange_19 rfl rfl 2 rfl ?_
        refine f_tags (r := r) (pc' := 23) hB dc_In_arrange_20 rfl (by omega) q_45 ?_
        refine y_iload (pc' := 25) hB dc_In_arrange_23 rfl 1 rfl ?_
        refine y_iald (c := 14 + r) (n := 1024) (j := i) (pc' := 26) hB dc_In_arrange_25 rfl (by unfold yN; omega) (yk_row (by omega)).2.2 (by omega) (by decide) ?_
        refine y_topi (y := (f1 i).2) (congrArg (fun z => (z i).2) hS1) ?_
        refine y_istore (pc' := 28) (lv' := [(8, .int ((f1 i).2)), (6, .long ((f1 i).1)), (5, .int (nI (i))), (0, .ref (o.G.ad (2 + r))), (1, .ref (o.G.ad (20))), (2, .int (nI (a))), (3, .int (nI (s))), (4, .int (nI (b)))]) hB hm dc_In_arrange_26 rfl (by decide) rfl ?_
        refine y_aload_n (pc' := 29) hB dc_In_arrange_28 rfl rfl 4 rfl ?_
        refine y_aload_n (pc' := 30) hB dc_In_arrange_29 rfl rfl 3 rfl ?_
        refine y_iload_n (pc' := 31) hB dc_In_arrange_30 rfl rfl 5 rfl ?_
        refine y_iload (pc' := 33) hB dc_In_arrange_31 rfl 2 rfl ?_
        refine y_lload (pc' := 35) hB dc_In_arrange_33 rfl 1 rfl ?_
        refine y_iload (pc' := 37) hB dc_In_arrange_35 rfl 0 rfl ?_
        refine y_iconst (v := nI 1) (pc' := 38) hB dc_In_arrange_37 rfl rfl ?_
        obtain ⟨x, hx⟩ : ∃ z, z = f1 i := ⟨_, rfl⟩
        rw [← hx]
        refine y_callV (c := 20) (ci := 2) (As := [.ref (o.G.ad (2 + r)), .int (nI (a)), .int (nI (i)), .long (x.1), .int (x.2), .int (yb true)]) (rest := []) (pc' := 41) hB hE (ct_J_placeIn o.l o.G (yq (yz S r f1) c1) od tg c1 (yJ_yq (yJ_yz hJ r f1) c1) r hr a i (by omega) (by omega) (by rw [hS1]; intro p q h7 h8 h9; have hz := zo_zs.mp h4 (p - a) (q - a) (by omega) (by omega); rwa [show a + (p - a) = p by omega, show a + (q - a) = q by omega] at hz) x.1 x.2 true (m i) (hmm i h1 h)) mm_J_placeIn q_371 q_372 q_373 (by decide) rfl rfl dc_In_arrange_38 rfl (by decide) rfl rfl (by decide) (fun v S' hpost => ?_)
        obtain ⟨p, c2, rfl, rfl, g1, g2, g3, g4, g5⟩ := hpost
        rw [hS1] at g3 g4
        rw [yq_yq]
        show yW o (yq (yz S r f1) c2) 41 [(8, .int (x.2)), (6, .long (x.1)), (5, .int (nI (i))), (0, .ref (o.G.ad (2 + r))), (1, .ref (o.G.ad (20))), (2, .int (nI (a))), (3, .int (nI (s))), (4, .int (nI (b)))] [.int (nI (p))]
        refine y_istore (pc' := 43) (lv' := [(9, .int (nI (p))), (8, .int (x.2)), (6, .long (x.1)), (5, .int (nI (i))), (0, .ref (o.G.ad (2 + r))), (1, .ref (o.G.ad (20))), (2, .int (nI (a))), (3, .int (nI (s))), (4, .int (nI (b)))]) hB hm dc_In_arrange_41 rfl (by decide) rfl ?_
        refine y_aload_n (pc' := 44) hB dc_In_arrange_43 rfl rfl 4 rfl ?_
        refine y_iload (pc' := 46) hB dc_In_arrange_44 rfl 0 rfl ?_
        refine y_iconst (v := nI 1) (pc' := 47) hB dc_In_arrange_46 rfl rfl ?_
        refine n_iadd (x := p) (y := 1) (pc' := 48) hB dc_In_arrange_47 rfl ?_
        refine y_aload_n (pc' := 49) hB dc_In_arrange_48 rfl rfl 4 rfl ?_
        refine y_iload (pc' := 51) hB dc_In_arrange_49 rfl 0 rfl ?_
        refine y_iload (pc' := 53) hB dc_In_arrange_51 rfl 3 rfl ?_
        refine y_iload (pc' := 55) hB dc_In_arrange_53 rfl 0 rfl ?_
        refine n_isub (x := i) (y := p) (pc' := 56) hB dc_In_arrange_55 rfl (by omega) ?_
        refine y_callV (c := 2 + r) (ci := 1) (As := [.int (nI (p + 1)), .ref (o.G.ad (2 + r)), .int (nI (p)), .int (nI (i - p))]) (rest := []) (pc' := 59) hB hE (ct_R_takeMany o.l o.G (yq (yz S r f1) c2) r hr r hr (p + 1) p (i - p) (by omega) (by omega)) mm_R_takeMany q_396 q_315 q_316 (by unfold yN; omega) (yk_row (by omega)).1 rfl dc_In_arrange_56 rfl (by decide) rfl rfl (by decide) (fun v S' hpost => ?_)
        obtain ⟨rfl, hSS⟩ := hpost
        rw [hSS]
        clear hSS S'
        show yW o (yz (yq (yz S r f1) c2) r (va_cpy (ye (yq (yz S r f1) c2) r) (ye (yq (yz S r f1) c2) r) p (p + 1) (i - p))) 59 [(9, .int (nI (p))), (8, .int (x.2)), (6, .long (x.1)), (5, .int (nI (i))), (0, .ref (o.G.ad (2 + r))), (1, .ref (o.G.ad (20))), (2, .int (nI (a))), (3, .int (nI (s))), (4, .int (nI (b)))] []
        have hS2 : yz (yq (yz S r f1) c2) r (va_cpy (ye (yq (yz S r f1) c2) r) (ye (yq (yz S r f1) c2) r) p (p + 1) (i - p)) = yq (yz S r (va_cpy f1 f1 p (p + 1) (i - p))) c2 := by
          rw [ye_yq, ye_yz]
          show yq (yz (yz S r f1) r _) c2 = _
          rw [yz_yz]
        rw [hS2]
        refine y_aload_n (pc' := 60) hB dc_In_arrange_59 rfl rfl 4 rfl ?_
        refine y_iload (pc' := 62) hB dc_In_arrange_60 rfl 0 rfl ?_
        refine y_lload (pc' := 64) hB dc_In_arrange_62 rfl 2 rfl ?_
        refine y_iload (pc' := 66) hB dc_In_arrange_64 rfl 1 rfl ?_
        refine y_callV (c := 2 + r) (ci := 1) (As := [.int (nI (p)), .long (x.1), .int (x.2)]) (rest := []) (pc' := 69) hB hE (ct_R_put o.l o.G _ r hr p (by omega) x.1 x.2) mm_R_put q_397 q_226 q_227 (by unfold yN; omega) (yk_row (by omega)).1 rfl dc_In_arrange_66 rfl (by decide) rfl rfl (by decide) (fun v S' hpost => ?_)
        obtain ⟨rfl, hSS⟩ := hpost
        rw [hSS]
        clear hSS S'
        show yW o (yz (yq (yz S r (va_cpy f1 f1 p (p + 1) (i - p))) c2) r (va_up (ye (yq (yz S r (va_cpy f1 f1 p (p + 1) (i - p))) c2) r) p (x.1, x.2))) 69 [(9, .int (nI (p))), (8, .int (x.2)), (6, .long (x.1)), (5, .int (nI (i))), (0, .ref (o.G.ad (2 + r))), (1, .ref (o.G.ad (20))), (2, .int (nI (a))), (3, .int (nI (s))), (4, .int (nI (b)))] []
        have hS3 : yz (yq (yz S r (va_cpy f1 f1 p (p + 1) (i - p))) c2) r (va_up (ye (yq (yz S r (va_cpy f1 f1 p (p + 1) (i - p))) c2) r) p (x.1, x.2)) = yq (yz S r (va_up (va_cpy f1 f1 p (p + 1) (i - p)) p (f1 i))) c2 := by
          rw [ye_yq, ye_yz, ← hx]
          show yq (yz (yz S r _) r _) c2 = _
          rw [yz_yz]
        rw [hS3]
        refine n_inc (q := 3) (z := 1) (pc' := 72) (lv' := [(5, .int (nI (i + 1))), (9, .int (nI (p))), (8, .int (x.2)), (6, .long (x.1)), (0, .ref (o.G.ad (2 + r))), (1, .ref (o.G.ad (20))), (2, .int (nI (a))), (3, .int (nI (s))), (4, .int (nI (b)))]) hB hm dc_In_arrange_69 rfl rfl (by decide) rfl ?_
        refine y_goto (tg := 3) hB dc_In_arrange_72 rfl ?_
        refine y_sub [0, 4, 5, 6, 7, 8] rfl ?_
        obtain ⟨k1, k2⟩ := zins (r := zq od tg) (f := ye S r) g1 g2 (h3 i (Or.inr (Nat.le_refl _))) h4 h5 (fun j q1 q2 => by have hz := zcd_t.mp (g3 j q1 q2); rwa [hx] at hz) (fun j q1 q2 => by have hz := g4 j q1 q2; rw [zcd_t, hx] at hz; exact Int.not_le.mp hz)
        refine ih (i + 1) c2 _ (by omega) (by omega) (by omega) (fun j q => ?_) k1 k2 ?_
        · rw [zins_out f1 g2 (by omega)]
          exact h3 j (by omega)
        · rw [show i + 1 - s = (i - s) + 1 by omega]
          show c2 ≤ c + (zsm m s (i - s) + m (s + (i - s)))
          rw [show s + (i - s) = i by omega]
          omega
  have h0 := loop 1025 s c (ye S r) (by omega) (Nat.le_refl _) (by omega) (fun _ _ => rfl) ho (ze.rf _) (by omega)
  rw [yz_self, yq_self hJ] at h0
  exact h0
