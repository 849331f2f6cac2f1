/-! REFERENCE: place -/
theorem dc_M_place_0 : decode mb_M_place 0 = .ok (.aload_n 0, 1) := by decide +kernel
theorem dc_M_place_1 : decode mb_M_place 1 = .ok (.getfield 70, 3) := by decide +kernel
theorem dc_M_place_4 : decode mb_M_place 4 = .ok (.istore 6, 2) := by decide +kernel
theorem dc_M_place_6 : decode mb_M_place 6 = .ok (.iload 6, 2) := by decide +kernel
theorem dc_M_place_8 : decode mb_M_place 8 = .ok (.ifCond .le 57, 3) := by decide +kernel
theorem dc_M_place_11 : decode mb_M_place 11 = .ok (.aload_n 0, 1) := by decide +kernel
theorem dc_M_place_12 : decode mb_M_place 12 = .ok (.iload_n 1, 1) := by decide +kernel
theorem dc_M_place_13 : decode mb_M_place 13 = .ok (.iload_n 2, 1) := by decide +kernel
theorem dc_M_place_14 : decode mb_M_place 14 = .ok (.lload_n 3, 1) := by decide +kernel
theorem dc_M_place_15 : decode mb_M_place 15 = .ok (.iload 5, 2) := by decide +kernel
theorem dc_M_place_17 : decode mb_M_place 17 = .ok (.iload 6, 2) := by decide +kernel
theorem dc_M_place_19 : decode mb_M_place 19 = .ok (.iconst 1, 1) := by decide +kernel
theorem dc_M_place_20 : decode mb_M_place 20 = .ok (.isub, 1) := by decide +kernel
theorem dc_M_place_21 : decode mb_M_place 21 = .ok (.invokevirtual 73, 3) := by decide +kernel
theorem dc_M_place_24 : decode mb_M_place 24 = .ok (.ifCond .eq 41, 3) := by decide +kernel
theorem dc_M_place_27 : decode mb_M_place 27 = .ok (.aload_n 0, 1) := by decide +kernel
theorem dc_M_place_28 : decode mb_M_place 28 = .ok (.getfield 20, 3) := by decide +kernel
theorem dc_M_place_31 : decode mb_M_place 31 = .ok (.iload 6, 2) := by decide +kernel
theorem dc_M_place_33 : decode mb_M_place 33 = .ok (.aload_n 0, 1) := by decide +kernel
theorem dc_M_place_34 : decode mb_M_place 34 = .ok (.getfield 20, 3) := by decide +kernel
theorem dc_M_place_37 : decode mb_M_place 37 = .ok (.iload 6, 2) := by decide +kernel
theorem dc_M_place_39 : decode mb_M_place 39 = .ok (.iconst 1, 1) := by decide +kernel
theorem dc_M_place_40 : decode mb_M_place 40 = .ok (.isub, 1) := by decide +kernel
theorem dc_M_place_41 : decode mb_M_place 41 = .ok (.laload, 1) := by decide +kernel
theorem dc_M_place_42 : decode mb_M_place 42 = .ok (.lastore, 1) := by decide +kernel
theorem dc_M_place_43 : decode mb_M_place 43 = .ok (.aload_n 0, 1) := by decide +kernel
theorem dc_M_place_44 : decode mb_M_place 44 = .ok (.getfield 23, 3) := by decide +kernel
theorem dc_M_place_47 : decode mb_M_place 47 = .ok (.iload 6, 2) := by decide +kernel
theorem dc_M_place_49 : decode mb_M_place 49 = .ok (.aload_n 0, 1) := by decide +kernel
theorem dc_M_place_50 : decode mb_M_place 50 = .ok (.getfield 23, 3) := by decide +kernel
theorem dc_M_place_53 : decode mb_M_place 53 = .ok (.iload 6, 2) := by decide +kernel
theorem dc_M_place_55 : decode mb_M_place 55 = .ok (.iconst 1, 1) := by decide +kernel
theorem dc_M_place_56 : decode mb_M_place 56 = .ok (.isub, 1) := by decide +kernel
theorem dc_M_place_57 : decode mb_M_place 57 = .ok (.iaload, 1) := by decide +kernel
theorem dc_M_place_58 : decode mb_M_place 58 = .ok (.iastore, 1) := by decide +kernel
theorem dc_M_place_59 : decode mb_M_place 59 = .ok (.iinc 6 (-1), 3) := by decide +kernel
theorem dc_M_place_62 : decode mb_M_place 62 = .ok (.goto (-56), 3) := by decide +kernel
theorem dc_M_place_65 : decode mb_M_place 65 = .ok (.aload_n 0, 1) := by decide +kernel
theorem dc_M_place_66 : decode mb_M_place 66 = .ok (.getfield 20, 3) := by decide +kernel
theorem dc_M_place_69 : decode mb_M_place 69 = .ok (.iload 6, 2) := by decide +kernel
theorem dc_M_place_71 : decode mb_M_place 71 = .ok (.lload_n 3, 1) := by decide +kernel
theorem dc_M_place_72 : decode mb_M_place 72 = .ok (.lastore, 1) := by decide +kernel
theorem dc_M_place_73 : decode mb_M_place 73 = .ok (.aload_n 0, 1) := by decide +kernel
theorem dc_M_place_74 : decode mb_M_place 74 = .ok (.getfield 23, 3) := by decide +kernel
theorem dc_M_place_77 : decode mb_M_place 77 = .ok (.iload 6, 2) := by decide +kernel
theorem dc_M_place_79 : decode mb_M_place 79 = .ok (.iload 5, 2) := by decide +kernel
theorem dc_M_place_81 : decode mb_M_place 81 = .ok (.iastore, 1) := by decide +kernel
theorem dc_M_place_82 : decode mb_M_place 82 = .ok (.aload_n 0, 1) := by decide +kernel
theorem dc_M_place_83 : decode mb_M_place 83 = .ok (.dup, 1) := by decide +kernel
theorem dc_M_place_84 : decode mb_M_place 84 = .ok (.getfield 70, 3) := by decide +kernel
theorem dc_M_place_87 : decode mb_M_place 87 = .ok (.iconst 1, 1) := by decide +kernel
theorem dc_M_place_88 : decode mb_M_place 88 = .ok (.iadd, 1) := by decide +kernel
theorem dc_M_place_89 : decode mb_M_place 89 = .ok (.putfield 70, 3) := by decide +kernel
theorem dc_M_place_92 : decode mb_M_place 92 = .ok (.return_, 1) := by decide +kernel
theorem zgap2 {α : Type} {r : α → Int} {f f1 : Nat → α} {x : α} {p i : Nat} (hp : p ≤ i) (h1 : ∀ j, j < p → f1 j = f j) (h2 : ∀ j, p < j → j ≤ i → f1 j = f (j - 1) ∧ r x < r (f (j - 1))) (h3 : p = 0 ∨ r (f (p - 1)) ≤ r x) (ho : zo r (zs f 0 i)) : zs (va_up f1 p x) 0 (i + 1) = zi r x (zs f 0 i) := by
  refine zo_uniq (zgap1 hp h1 h2 h3 ho) (zi_o ho) (ze.tr ?_ (zi_e ho).sy)
  have e : zs (va_up f1 p x) 0 (i + 1) = zs f 0 p ++ x :: zs f p (i - p) := by
    rw [zs_at _ 0 (show p < i + 1 by omega), Nat.zero_add, va_up_self, show i + 1 - p - 1 = i - p by omega]
    congr 1
    · refine zs_congr (fun j hj => ?_)
      rw [va_up_ne _ _ (by omega)]
      exact h1 _ (by omega)
    · congr 1
      refine zs_congr (fun j hj => ?_)
      rw [va_up_ne _ _ (by omega), (h2 _ (by omega) (by omega)).1]
      congr 1
      omega
  have e2 : zs f 0 i = zs f 0 p ++ zs f p (i - p) := by rw [zs_split f 0 hp, Nat.zero_add]
  rw [e, e2]
  refine ze_mid (fun y hy => ?_)
  obtain ⟨j, hj, rfl⟩ := zs_mem.mp hy
  have := (h2 (p + j + 1) (by omega) (by omega)).2
  rwa [Nat.add_sub_cancel] at this
set_option maxHeartbeats 4000000 in
set_option maxRecDepth 100000 in
theorem ct_M_place (l : Launch) (g : YG) (S : YS) (f : Nat → Int64 × Int32) (m : Nat) (hm2 : m < 2048) (od : Nat) (ho : od < 8) (tg : Bool) (a : Int64) (t : Int32) (hs : zo (zq od tg) (zs f 0 m)) : yC l mn_M_place mb_M_place 7 none 3 g [.ref (g.ad (24)), .int (nI (od)), .int (yb (!tg)), .long (a), .int (t)] (mW S f m) (fun v S' => ∃ f', v = none ∧ S' = mW S f' (m + 1) ∧ zs f' 0 (m + 1) = zi (zq od tg) (a, t) (zs f 0 m)) := by
  refine yC_of (by decide) (Nat.le_of_ble_eq_true rfl) ?_
  intro o hl hg hB0 hE
  subst hl
  subst hg
  have hB : yB o mb_M_place "OrderBenchModel" := hB0
  have hm := hE.1
  show yW o (mW S f m) 0 [(0, .ref (o.G.ad (24))), (1, .int (nI (od))), (2, .int (yb (!tg))), (3, .long (a)), (5, .int (t))] []
  refine y_aload_n (pc' := 1) hB dc_M_place_0 rfl rfl 0 rfl ?_
  refine f_M_workSize (pc' := 4) hB dc_M_place_1 rfl q_645 ?_
  refine y_topi (y := nI (m)) (mW_n S f m) ?_
  refine y_istore (pc' := 6) (lv' := [(6, .int (nI (m))), (0, .ref (o.G.ad (24))), (1, .int (nI (od))), (2, .int (yb (!tg))), (3, .long (a)), (5, .int (t))]) hB hm dc_M_place_4 rfl (by decide) rfl ?_
  have loop : ∀ (d : Nat) (p : Nat) (f1 : Nat → Int64 × Int32), p < d → p ≤ m → (∀ j, j < p → f1 j = f j) → (∀ j, p < j → j ≤ m → f1 j = f (j - 1) ∧ zq od tg (a, t) < zq od tg (f (j - 1))) → yW o (mW S f1 m) 6 [(6, .int (nI (p))), (0, .ref (o.G.ad (24))), (1, .int (nI (od))), (2, .int (yb (!tg))), (3, .long (a)), (5, .int (t))] [] := by
    intro d
    induction d with
    | zero => intro p f1 hd; omega
    | succ d ih =>
      intro p f1 hd h1 h2 h3
      have fin : (p = 0 ∨ zq od tg (f (p - 1)) ≤ zq od tg (a, t)) → yW o (mW S f1 m) 65 [(6, .int (nI (p))), (0, .ref (o.G.ad (24))), (1, .int (nI (od))), (2, .int (yb (!tg))), (3, .long (a)), (5, .int (t))] [] := by
        intro q
        refine y_aload_n (pc' := 66) hB dc_M_place_65 rfl rfl 1 rfl ?_
        refine f_M_workKeys (pc' := 69) hB dc_M_place_66 rfl q_643 ?_
        refine y_iload (pc' := 71) hB dc_M_place_69 rfl 0 rfl ?_
        refine y_lload_n (pc' := 72) hB dc_M_place_71 rfl rfl 4 rfl ?_
        refine y_last (c := 28) (n := 2048) (j := p) (pc' := 73) hB dc_M_place_72 rfl (by decide) rfl (by omega) (by decide) ?_
        refine y_aload_n (pc' := 74) hB dc_M_place_73 rfl rfl 1 rfl ?_
        refine f_M_workTags (pc' := 77) hB dc_M_place_74 rfl q_644 ?_
        refine y_iload (pc' := 79) hB dc_M_place_77 rfl 0 rfl ?_
        refine y_iload (pc' := 81) hB dc_M_place_79 rfl 5 rfl ?_
        refine y_iast (c := 29) (n := 2048) (j := p) (pc' := 82) hB dc_M_place_81 rfl (by decide) rfl (by omega) (by decide) ?_
        rw [mW_L, gI_sL, mW_I, mW_put]
        refine y_aload_n (pc' := 83) hB dc_M_place_82 rfl rfl 1 rfl ?_
        refine y_dup (pc' := 84) hB dc_M_place_83 rfl rfl ?_
        refine f_M_workSize (pc' := 87) hB dc_M_place_84 rfl q_645 ?_
        refine y_topi (y := nI (m)) (mW_n S (va_up f1 p (a, t)) m) ?_
        refine y_iconst (v := nI 1) (pc' := 88) hB dc_M_place_87 rfl rfl ?_
        refine n_iadd (x := m) (y := 1) (pc' := 89) hB dc_M_place_88 rfl ?_
        refine p_M_workSize (pc' := 92) hB dc_M_place_89 rfl q_645 ?_
        rw [mW_m]
        exact y_vret hB hE dc_M_place_92 ⟨_, rfl, rfl, zgap2 h1 h2 h3 q hs⟩
      refine y_iload (pc' := 8) hB dc_M_place_6 rfl 0 rfl ?_
      refine n_if_le (pc' := 11) (tg := 65) hB dc_M_place_8 rfl rfl (by omega) (fun b1 => ?_) (fun b1 => ?_)
      · exact fin (Or.inl (by omega))
      · refine y_aload_n (pc' := 12) hB dc_M_place_11 rfl rfl 1 rfl ?_
        refine y_iload_n (pc' := 13) hB dc_M_place_12 rfl rfl 2 rfl ?_
        refine y_iload_n (pc' := 14) hB dc_M_place_13 rfl rfl 3 rfl ?_
        refine y_lload_n (pc' := 15) hB dc_M_place_14 rfl rfl 4 rfl ?_
        refine y_iload (pc' := 17) hB dc_M_place_15 rfl 5 rfl ?_
        refine y_iload (pc' := 19) hB dc_M_place_17 rfl 0 rfl ?_
        refine y_iconst (v := nI 1) (pc' := 20) hB dc_M_place_19 rfl rfl ?_
        refine n_isub (x := p) (y := 1) (pc' := 21) hB dc_M_place_20 rfl (by omega) ?_
        refine y_callV (c := 24) (ci := 4) (As := [.int (nI (od)), .int (yb (!tg)), .long (a), .int (t), .int (nI (p - 1))]) (rest := []) (pc' := 24) hB hE (ct_M_belongsBefore o.l o.G S f1 m od ho tg a t (p - 1) (by omega)) mm_M_belongsBefore q_736 q_738 qs_18 (by decide) rfl rfl dc_M_place_21 rfl (by decide) rfl rfl (Nat.le_of_ble_eq_true rfl) (fun v S' hpost => ?_)
        obtain ⟨rfl, hSS⟩ := hpost
        rw [hSS]
        clear hSS S'
        show yW o (mW S f1 m) 24 [(6, .int (nI (p))), (0, .ref (o.G.ad (24))), (1, .int (nI (od))), (2, .int (yb (!tg))), (3, .long (a)), (5, .int (t))] [.int (yb (decide (zq od tg (a, t) < zq od tg (f1 (p - 1)))))]
        rw [h2 (p - 1) (by omega)]
        refine y_if_eq (x := yb (decide (zq od tg (a, t) < zq od tg (f (p - 1))))) (pc' := 27) (tg := 65) hB dc_M_place_24 rfl rfl (fun b2 => ?_) (fun b2 => ?_)
        · rw [yb_0, decide_eq_false_iff_not] at b2
          exact fin (Or.inr (by omega))
        · rw [yb_n, decide_eq_true_eq] at b2
          refine y_aload_n (pc' := 28) hB dc_M_place_27 rfl rfl 1 rfl ?_
          refine f_M_workKeys (pc' := 31) hB dc_M_place_28 rfl q_643 ?_
          refine y_iload (pc' := 33) hB dc_M_place_31 rfl 0 rfl ?_
          refine y_aload_n (pc' := 34) hB dc_M_place_33 rfl rfl 1 rfl ?_
          refine f_M_workKeys (pc' := 37) hB dc_M_place_34 rfl q_643 ?_
          refine y_iload (pc' := 39) hB dc_M_place_37 rfl 0 rfl ?_
          refine y_iconst (v := nI 1) (pc' := 40) hB dc_M_place_39 rfl rfl ?_
          refine n_isub (x := p) (y := 1) (pc' := 41) hB dc_M_place_40 rfl (by omega) ?_
          refine y_lald (c := 28) (n := 2048) (j := p - 1) (pc' := 42) hB dc_M_place_41 rfl (by decide) rfl (by omega) (by decide) ?_
          refine y_topl (y := (f1 (p - 1)).1) (by rw [mW_L]) ?_
          refine y_last (c := 28) (n := 2048) (j := p) (pc' := 43) hB dc_M_place_42 rfl (by decide) rfl (by omega) (by decide) ?_
          refine y_aload_n (pc' := 44) hB dc_M_place_43 rfl rfl 1 rfl ?_
          refine f_M_workTags (pc' := 47) hB dc_M_place_44 rfl q_644 ?_
          refine y_iload (pc' := 49) hB dc_M_place_47 rfl 0 rfl ?_
          refine y_aload_n (pc' := 50) hB dc_M_place_49 rfl rfl 1 rfl ?_
          refine f_M_workTags (pc' := 53) hB dc_M_place_50 rfl q_644 ?_
          refine y_iload (pc' := 55) hB dc_M_place_53 rfl 0 rfl ?_
          refine y_iconst (v := nI 1) (pc' := 56) hB dc_M_place_55 rfl rfl ?_
          refine n_isub (x := p) (y := 1) (pc' := 57) hB dc_M_place_56 rfl (by omega) ?_
          refine y_iald (c := 29) (n := 2048) (j := p - 1) (pc' := 58) hB dc_M_place_57 rfl (by decide) rfl (by omega) (by decide) ?_
          refine y_topi (y := (f1 (p - 1)).2) (by rw [gI_sL, mW_I]) ?_
          refine y_iast (c := 29) (n := 2048) (j := p) (pc' := 59) hB dc_M_place_58 rfl (by decide) rfl (by omega) (by decide) ?_
          rw [mW_L, gI_sL, mW_I, mW_put]
          refine n_dec (q := 0) (pc' := 62) (lv' := [(6, .int (nI (p - 1))), (0, .ref (o.G.ad (24))), (1, .int (nI (od))), (2, .int (yb (!tg))), (3, .long (a)), (5, .int (t))]) hB hm dc_M_place_59 rfl (by omega) rfl (by decide) rfl ?_
          refine y_goto (tg := 6) hB dc_M_place_62 rfl ?_
          refine y_sub [0, 1, 2, 3, 4, 5] rfl ?_
          refine ih (p - 1) _ (by omega) (by omega) (fun j hj => ?_) (fun j q1 q2 => ?_)
          · rw [va_up_ne _ _ (by omega)]; exact h2 j (by omega)
          · by_cases e : j = p
            · subst e; rw [va_up_self]; exact ⟨h2 (j - 1) (by omega), b2⟩
            · rw [va_up_ne _ _ e]; exact h3 j (by omega) q2
  exact loop (m + 1) m f (by omega) (Nat.le_refl _) (fun _ _ => rfl) (fun j q1 q2 => by omega)
