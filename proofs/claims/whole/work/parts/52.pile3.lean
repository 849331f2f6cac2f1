/-! PILE: joining two runs -/
theorem dc_Pi_joinWithNext_0 : decode mb_Pi_joinWithNext 0 = .ok (.aload_n 0, 1) := by decide +kernel
theorem dc_Pi_joinWithNext_1 : decode mb_Pi_joinWithNext 1 = .ok (.getfield 19, 3) := by decide +kernel
theorem dc_Pi_joinWithNext_4 : decode mb_Pi_joinWithNext 4 = .ok (.iload_n 2, 1) := by decide +kernel
theorem dc_Pi_joinWithNext_5 : decode mb_Pi_joinWithNext 5 = .ok (.iconst 1, 1) := by decide +kernel
theorem dc_Pi_joinWithNext_6 : decode mb_Pi_joinWithNext 6 = .ok (.iadd, 1) := by decide +kernel
theorem dc_Pi_joinWithNext_7 : decode mb_Pi_joinWithNext 7 = .ok (.iaload, 1) := by decide +kernel
theorem dc_Pi_joinWithNext_8 : decode mb_Pi_joinWithNext 8 = .ok (.istore_n 3, 1) := by decide +kernel
theorem dc_Pi_joinWithNext_9 : decode mb_Pi_joinWithNext 9 = .ok (.aload_n 0, 1) := by decide +kernel
theorem dc_Pi_joinWithNext_10 : decode mb_Pi_joinWithNext 10 = .ok (.getfield 19, 3) := by decide +kernel
theorem dc_Pi_joinWithNext_13 : decode mb_Pi_joinWithNext 13 = .ok (.iload_n 2, 1) := by decide +kernel
theorem dc_Pi_joinWithNext_14 : decode mb_Pi_joinWithNext 14 = .ok (.iconst 2, 1) := by decide +kernel
theorem dc_Pi_joinWithNext_15 : decode mb_Pi_joinWithNext 15 = .ok (.iadd, 1) := by decide +kernel
theorem dc_Pi_joinWithNext_16 : decode mb_Pi_joinWithNext 16 = .ok (.iaload, 1) := by decide +kernel
theorem dc_Pi_joinWithNext_17 : decode mb_Pi_joinWithNext 17 = .ok (.istore 4, 2) := by decide +kernel
theorem dc_Pi_joinWithNext_19 : decode mb_Pi_joinWithNext 19 = .ok (.aload_n 0, 1) := by decide +kernel
theorem dc_Pi_joinWithNext_20 : decode mb_Pi_joinWithNext 20 = .ok (.getfield 15, 3) := by decide +kernel
theorem dc_Pi_joinWithNext_23 : decode mb_Pi_joinWithNext 23 = .ok (.aload_n 1, 1) := by decide +kernel
theorem dc_Pi_joinWithNext_24 : decode mb_Pi_joinWithNext 24 = .ok (.aload_n 0, 1) := by decide +kernel
theorem dc_Pi_joinWithNext_25 : decode mb_Pi_joinWithNext 25 = .ok (.getfield 19, 3) := by decide +kernel
theorem dc_Pi_joinWithNext_28 : decode mb_Pi_joinWithNext 28 = .ok (.iload_n 2, 1) := by decide +kernel
theorem dc_Pi_joinWithNext_29 : decode mb_Pi_joinWithNext 29 = .ok (.iaload, 1) := by decide +kernel
theorem dc_Pi_joinWithNext_30 : decode mb_Pi_joinWithNext 30 = .ok (.iload_n 3, 1) := by decide +kernel
theorem dc_Pi_joinWithNext_31 : decode mb_Pi_joinWithNext 31 = .ok (.aload_n 1, 1) := by decide +kernel
theorem dc_Pi_joinWithNext_32 : decode mb_Pi_joinWithNext 32 = .ok (.getfield 83, 3) := by decide +kernel
theorem dc_Pi_joinWithNext_35 : decode mb_Pi_joinWithNext 35 = .ok (.iload_n 3, 1) := by decide +kernel
theorem dc_Pi_joinWithNext_36 : decode mb_Pi_joinWithNext 36 = .ok (.laload, 1) := by decide +kernel
theorem dc_Pi_joinWithNext_37 : decode mb_Pi_joinWithNext 37 = .ok (.aload_n 1, 1) := by decide +kernel
theorem dc_Pi_joinWithNext_38 : decode mb_Pi_joinWithNext 38 = .ok (.getfield 87, 3) := by decide +kernel
theorem dc_Pi_joinWithNext_41 : decode mb_Pi_joinWithNext 41 = .ok (.iload_n 3, 1) := by decide +kernel
theorem dc_Pi_joinWithNext_42 : decode mb_Pi_joinWithNext 42 = .ok (.iaload, 1) := by decide +kernel
theorem dc_Pi_joinWithNext_43 : decode mb_Pi_joinWithNext 43 = .ok (.iconst 1, 1) := by decide +kernel
theorem dc_Pi_joinWithNext_44 : decode mb_Pi_joinWithNext 44 = .ok (.invokevirtual 90, 3) := by decide +kernel
theorem dc_Pi_joinWithNext_47 : decode mb_Pi_joinWithNext 47 = .ok (.istore 5, 2) := by decide +kernel
theorem dc_Pi_joinWithNext_49 : decode mb_Pi_joinWithNext 49 = .ok (.iload_n 2, 1) := by decide +kernel
theorem dc_Pi_joinWithNext_50 : decode mb_Pi_joinWithNext 50 = .ok (.iconst 1, 1) := by decide +kernel
theorem dc_Pi_joinWithNext_51 : decode mb_Pi_joinWithNext 51 = .ok (.iadd, 1) := by decide +kernel
theorem dc_Pi_joinWithNext_52 : decode mb_Pi_joinWithNext 52 = .ok (.istore 6, 2) := by decide +kernel
theorem dc_Pi_joinWithNext_54 : decode mb_Pi_joinWithNext 54 = .ok (.iload 6, 2) := by decide +kernel
theorem dc_Pi_joinWithNext_56 : decode mb_Pi_joinWithNext 56 = .ok (.aload_n 0, 1) := by decide +kernel
theorem dc_Pi_joinWithNext_57 : decode mb_Pi_joinWithNext 57 = .ok (.getfield 23, 3) := by decide +kernel
theorem dc_Pi_joinWithNext_60 : decode mb_Pi_joinWithNext 60 = .ok (.if_icmp .ge 25, 3) := by decide +kernel
theorem dc_Pi_joinWithNext_63 : decode mb_Pi_joinWithNext 63 = .ok (.aload_n 0, 1) := by decide +kernel
theorem dc_Pi_joinWithNext_64 : decode mb_Pi_joinWithNext 64 = .ok (.getfield 19, 3) := by decide +kernel
theorem dc_Pi_joinWithNext_67 : decode mb_Pi_joinWithNext 67 = .ok (.iload 6, 2) := by decide +kernel
theorem dc_Pi_joinWithNext_69 : decode mb_Pi_joinWithNext 69 = .ok (.aload_n 0, 1) := by decide +kernel
theorem dc_Pi_joinWithNext_70 : decode mb_Pi_joinWithNext 70 = .ok (.getfield 19, 3) := by decide +kernel
theorem dc_Pi_joinWithNext_73 : decode mb_Pi_joinWithNext 73 = .ok (.iload 6, 2) := by decide +kernel
theorem dc_Pi_joinWithNext_75 : decode mb_Pi_joinWithNext 75 = .ok (.iconst 1, 1) := by decide +kernel
theorem dc_Pi_joinWithNext_76 : decode mb_Pi_joinWithNext 76 = .ok (.iadd, 1) := by decide +kernel
theorem dc_Pi_joinWithNext_77 : decode mb_Pi_joinWithNext 77 = .ok (.iaload, 1) := by decide +kernel
theorem dc_Pi_joinWithNext_78 : decode mb_Pi_joinWithNext 78 = .ok (.iastore, 1) := by decide +kernel
theorem dc_Pi_joinWithNext_79 : decode mb_Pi_joinWithNext 79 = .ok (.iinc 6 1, 3) := by decide +kernel
theorem dc_Pi_joinWithNext_82 : decode mb_Pi_joinWithNext 82 = .ok (.goto (-28), 3) := by decide +kernel
theorem dc_Pi_joinWithNext_85 : decode mb_Pi_joinWithNext 85 = .ok (.aload_n 0, 1) := by decide +kernel
theorem dc_Pi_joinWithNext_86 : decode mb_Pi_joinWithNext 86 = .ok (.getfield 11, 3) := by decide +kernel
theorem dc_Pi_joinWithNext_89 : decode mb_Pi_joinWithNext 89 = .ok (.iconst 0, 1) := by decide +kernel
theorem dc_Pi_joinWithNext_90 : decode mb_Pi_joinWithNext 90 = .ok (.aload_n 1, 1) := by decide +kernel
theorem dc_Pi_joinWithNext_91 : decode mb_Pi_joinWithNext 91 = .ok (.iload 5, 2) := by decide +kernel
theorem dc_Pi_joinWithNext_93 : decode mb_Pi_joinWithNext 93 = .ok (.iload_n 3, 1) := by decide +kernel
theorem dc_Pi_joinWithNext_94 : decode mb_Pi_joinWithNext 94 = .ok (.iload 5, 2) := by decide +kernel
theorem dc_Pi_joinWithNext_96 : decode mb_Pi_joinWithNext 96 = .ok (.isub, 1) := by decide +kernel
theorem dc_Pi_joinWithNext_97 : decode mb_Pi_joinWithNext 97 = .ok (.invokevirtual 94, 3) := by decide +kernel
theorem dc_Pi_joinWithNext_100 : decode mb_Pi_joinWithNext 100 = .ok (.aload_n 0, 1) := by decide +kernel
theorem dc_Pi_joinWithNext_101 : decode mb_Pi_joinWithNext 101 = .ok (.aload_n 1, 1) := by decide +kernel
theorem dc_Pi_joinWithNext_102 : decode mb_Pi_joinWithNext 102 = .ok (.iload 5, 2) := by decide +kernel
theorem dc_Pi_joinWithNext_104 : decode mb_Pi_joinWithNext 104 = .ok (.iload_n 3, 1) := by decide +kernel
theorem dc_Pi_joinWithNext_105 : decode mb_Pi_joinWithNext 105 = .ok (.iload 4, 2) := by decide +kernel
theorem dc_Pi_joinWithNext_107 : decode mb_Pi_joinWithNext 107 = .ok (.invokevirtual 98, 3) := by decide +kernel
theorem dc_Pi_joinWithNext_110 : decode mb_Pi_joinWithNext 110 = .ok (.return_, 1) := by decide +kernel
theorem gF_yq21 (S : YS) (c : Nat) : gF (yq S c) 21 3 = gF S 21 3 := by unfold yq; rw [gF_sF]; exact if_neg (by decide)
theorem ze_in {α : Type} {r : α → Int} {f g : Nat → α} {a b p q : Nat} (h1 : a ≤ p) (h2 : p ≤ q) (h3 : q ≤ b) (h : ze r (zs f p (q - p)) (zs g p (q - p))) (ho : ∀ j, j < p ∨ q ≤ j → f j = g j) : ze r (zs f a (b - a)) (zs g a (b - a)) := by
  have e : ∀ w : Nat → α, zs w a (b - a) = zs w a (p - a) ++ (zs w p (q - p) ++ zs w q (b - q)) := fun w => by
    rw [zs_split w a (show p - a ≤ b - a by omega), show a + (p - a) = p by omega, show b - a - (p - a) = b - p by omega, zs_split w p (show q - p ≤ b - p by omega), show p + (q - p) = q by omega, show b - p - (q - p) = b - q by omega]
  rw [e f, e g]
  exact (ze.of_eq (zs_congr (fun j hj => ho _ (by omega)))).app (h.app (ze.of_eq (zs_congr (fun j hj => ho _ (by omega)))))
theorem zjoin2 {α : Type} {r : α → Int} {F g : Nat → α} {x p m b : Nat} (h1 : x ≤ p) (h2 : p ≤ m) (h3 : m < b) (o1 : ∀ i j, x ≤ i → i < j → j < m → r (F i) ≤ r (F j)) (o2 : ∀ i j, m ≤ i → i < j → j < b → r (F i) ≤ r (F j)) (hp : ∀ j, x ≤ j → j < p → r (F j) ≤ r (F m)) (go : ∀ j, j < p ∨ b ≤ j → g j = F j) (gs : zo r (zs g p (b - p))) (ge : ze r (zs g p (b - p)) (zs F p (b - p))) : zo r (zs g x (b - x)) ∧ ze r (zs g x (b - x)) (zs F x (b - x)) := by
  refine ⟨zo_seg.mpr (fun i j q1 q2 q3 => ?_), ze_in h1 (by omega) (Nat.le_refl _) ge go⟩
  by_cases hi : p ≤ i
  · exact zo_seg.mp gs i j hi q2 q3
  · rw [go i (by omega)]
    by_cases hj : p ≤ j
    · obtain ⟨k, e1, e2, e3⟩ := zpm_mem ge.to_perm j hj q3
      rw [e3]
      by_cases hk : k < m
      · exact o1 i k q1 (by omega) hk
      · have h4 := hp i q1 (by omega)
        by_cases hk2 : k = m
        · rw [hk2]; exact h4
        · have h5 := o2 m k (Nat.le_refl _) (by omega) e2
          omega
    · rw [go j (by omega)]
      exact o1 i j q1 q2 (by omega)
set_option maxHeartbeats 4000000 in
set_option maxRecDepth 100000 in
theorem ct_Pi_joinWithNext (l : Launch) (g : YG) (S : YS) (od : Nat) (tg : Bool) (c : Nat) (hJ : yJ S od tg c) (r : Nat) (hr : r < 6) (hr5 : 5 ≠ r) (h : Nat) (hh : gF S 21 3 = nI h) (h65 : h ≤ 65) (k : Nat) (hk : k + 2 ≤ h) (x m b : Nat) (hbx : gI S 22 k = nI x) (hbm : gI S 22 (k + 1) = nI m) (hbb : gI S 22 (k + 2) = nI b) (hxm : x ≤ m) (hmb : m < b) (hb : b ≤ 1024) (F : Nat → Int64 × Int32) (hF : ye S r = F) (o1 : ∀ i j, x ≤ i → i < j → j < m → zq od tg (F i) ≤ zq od tg (F j)) (o2 : ∀ i j, m ≤ i → i < j → j < b → zq od tg (F i) ≤ zq od tg (F j)) : yC l mn_Pi_joinWithNext mb_Pi_joinWithNext 7 none 5 g [.ref (g.ad (21)), .ref (g.ad (2 + r)), .int (nI (k))] S (fun v S' => ∃ (B' : Nat → Int32) (A' g' : Nat → Int64 × Int32) (c' : Nat), v = none ∧ S' = yq (yz (yz (sI S 22 B') 5 A') r g') c' ∧ (∀ i, i ≤ k → B' i = gI S 22 i) ∧ (∀ i, k < i → i < h → B' i = gI S 22 (i + 1)) ∧ (∀ j, j < x ∨ b ≤ j → g' j = F j) ∧ zo (zq od tg) (zs g' x (b - x)) ∧ ze (zq od tg) (zs g' x (b - x)) (zs F x (b - x)) ∧ c' ≤ c + 2 * (b - x) + 1) := by
  refine yC_of (by decide) (Nat.le_of_ble_eq_true rfl) ?_
  intro o hl hg hB0 hE
  subst hl
  subst hg
  have hB : yB o mb_Pi_joinWithNext "OrderBench$Pile" := hB0
  have hm := hE.1
  show yW o (S) 0 [(0, .ref (o.G.ad (21))), (1, .ref (o.G.ad (2 + r))), (2, .int (nI (k)))] []
  refine y_aload_n (pc' := 1) hB dc_Pi_joinWithNext_0 rfl rfl 0 rfl ?_
  refine f_P_borders (pc' := 4) hB dc_Pi_joinWithNext_1 rfl q_91 ?_
  refine y_iload_n (pc' := 5) hB dc_Pi_joinWithNext_4 rfl rfl 2 rfl ?_
  refine y_iconst (v := nI 1) (pc' := 6) hB dc_Pi_joinWithNext_5 rfl rfl ?_
  refine n_iadd (x := k) (y := 1) (pc' := 7) hB dc_Pi_joinWithNext_6 rfl ?_
  refine y_iald (c := 22) (n := 66) (j := k + 1) (pc' := 8) hB dc_Pi_joinWithNext_7 rfl (by decide) rfl (by omega) (by decide) ?_
  refine y_topi (y := nI (m)) (hbm) ?_
  refine y_istore_n (pc' := 9) (lv' := [(3, .int (nI (m))), (0, .ref (o.G.ad (21))), (1, .ref (o.G.ad (2 + r))), (2, .int (nI (k)))]) hB hm dc_Pi_joinWithNext_8 rfl rfl (by decide) rfl ?_
  refine y_aload_n (pc' := 10) hB dc_Pi_joinWithNext_9 rfl rfl 1 rfl ?_
  refine f_P_borders (pc' := 13) hB dc_Pi_joinWithNext_10 rfl q_91 ?_
  refine y_iload_n (pc' := 14) hB dc_Pi_joinWithNext_13 rfl rfl 3 rfl ?_
  refine y_iconst (v := nI 2) (pc' := 15) hB dc_Pi_joinWithNext_14 rfl rfl ?_
  refine n_iadd (x := k) (y := 2) (pc' := 16) hB dc_Pi_joinWithNext_15 rfl ?_
  refine y_iald (c := 22) (n := 66) (j := k + 2) (pc' := 17) hB dc_Pi_joinWithNext_16 rfl (by decide) rfl (by omega) (by decide) ?_
  refine y_topi (y := nI (b)) (hbb) ?_
  refine y_istore (pc' := 19) (lv' := [(4, .int (nI (b))), (3, .int (nI (m))), (0, .ref (o.G.ad (21))), (1, .ref (o.G.ad (2 + r))), (2, .int (nI (k)))]) hB hm dc_Pi_joinWithNext_17 rfl (by decide) rfl ?_
  refine y_aload_n (pc' := 20) hB dc_Pi_joinWithNext_19 rfl rfl 2 rfl ?_
  refine f_P_judge (pc' := 23) hB dc_Pi_joinWithNext_20 rfl q_90 ?_
  refine y_aload_n (pc' := 24) hB dc_Pi_joinWithNext_23 rfl rfl 3 rfl ?_
  refine y_aload_n (pc' := 25) hB dc_Pi_joinWithNext_24 rfl rfl 2 rfl ?_
  refine f_P_borders (pc' := 28) hB dc_Pi_joinWithNext_25 rfl q_91 ?_
  refine y_iload_n (pc' := 29) hB dc_Pi_joinWithNext_28 rfl rfl 4 rfl ?_
  refine y_iald (c := 22) (n := 66) (j := k) (pc' := 30) hB dc_Pi_joinWithNext_29 rfl (by decide) rfl (by omega) (by decide) ?_
  refine y_topi (y := nI (x)) (hbx) ?_
  refine y_iload_n (pc' := 31) hB dc_Pi_joinWithNext_30 rfl rfl 1 rfl ?_
  refine y_aload_n (pc' := 32) hB dc_Pi_joinWithNext_31 rfl rfl 3 rfl ?_
  refine f_keys (r := r) (pc' := 35) hB dc_Pi_joinWithNext_32 rfl (by omega) q_43 ?_
  refine y_iload_n (pc' := 36) hB dc_Pi_joinWithNext_35 rfl rfl 1 rfl ?_
  refine y_lald (c := 8 + r) (n := 1024) (j := m) (pc' := 37) hB dc_Pi_joinWithNext_36 rfl (by unfold yN; omega) (yk_row (by omega)).2.1 (by omega) (by decide) ?_
  refine y_topl (y := (F m).1) (by show (ye S r m).1 = _; rw [hF]) ?_
  refine y_aload_n (pc' := 38) hB dc_Pi_joinWithNext_37 rfl rfl 3 rfl ?_
  refine f_tags (r := r) (pc' := 41) hB dc_Pi_joinWithNext_38 rfl (by omega) q_48 ?_
  refine y_iload_n (pc' := 42) hB dc_Pi_joinWithNext_41 rfl rfl 1 rfl ?_
  refine y_iald (c := 14 + r) (n := 1024) (j := m) (pc' := 43) hB dc_Pi_joinWithNext_42 rfl (by unfold yN; omega) (yk_row (by omega)).2.2 (by omega) (by decide) ?_
  refine y_topi (y := (F m).2) (by show (ye S r m).2 = _; rw [hF]) ?_
  refine y_iconst (v := nI 1) (pc' := 44) hB dc_Pi_joinWithNext_43 rfl rfl ?_
  refine y_callV (c := 20) (ci := 2) (As := [.ref (o.G.ad (2 + r)), .int (nI (x)), .int (nI (m)), .long ((F m).1), .int ((F m).2), .int (yb true)]) (rest := []) (pc' := 47) hB hE (ct_J_placeByLeaps o.l o.G S od tg c hJ r hr x m hxm (by omega) (by rw [hF]; exact o1) (F m).1 (F m).2 true) mm_J_placeByLeaps q_501 q_502 q_503 (by decide) rfl rfl dc_Pi_joinWithNext_44 rfl (by decide) rfl rfl (Nat.le_of_ble_eq_true rfl) (fun v S' hpost => ?_)
  obtain ⟨p, c2, rfl, rfl, n1, n2, n3, n4, n5⟩ := hpost
  rw [hF] at n3
  show yW o (yq S c2) 47 [(4, .int (nI (b))), (3, .int (nI (m))), (0, .ref (o.G.ad (21))), (1, .ref (o.G.ad (2 + r))), (2, .int (nI (k)))] [.int (nI (p))]
  refine y_istore (pc' := 49) (lv' := [(5, .int (nI (p))), (4, .int (nI (b))), (3, .int (nI (m))), (0, .ref (o.G.ad (21))), (1, .ref (o.G.ad (2 + r))), (2, .int (nI (k)))]) hB hm dc_Pi_joinWithNext_47 rfl (by decide) rfl ?_
  refine y_iload_n (pc' := 50) hB dc_Pi_joinWithNext_49 rfl rfl 5 rfl ?_
  refine y_iconst (v := nI 1) (pc' := 51) hB dc_Pi_joinWithNext_50 rfl rfl ?_
  refine n_iadd (x := k) (y := 1) (pc' := 52) hB dc_Pi_joinWithNext_51 rfl ?_
  refine y_istore (pc' := 54) (lv' := [(6, .int (nI (k + 1))), (5, .int (nI (p))), (4, .int (nI (b))), (3, .int (nI (m))), (0, .ref (o.G.ad (21))), (1, .ref (o.G.ad (2 + r))), (2, .int (nI (k)))]) hB hm dc_Pi_joinWithNext_52 rfl (by decide) rfl ?_
  have loop : ∀ (d : Nat) (i : Nat) (B1 : Nat → Int32), h - i < d → k < i ∧ i ≤ h → (∀ u, u ≤ k → B1 u = gI S 22 u) → (∀ u, k < u → u < i → B1 u = gI S 22 (u + 1)) → (∀ u, i ≤ u → B1 u = gI S 22 u) → yW o (yq (sI S 22 B1) c2) 54 [(6, .int (nI (i))), (5, .int (nI (p))), (4, .int (nI (b))), (3, .int (nI (m))), (0, .ref (o.G.ad (21))), (1, .ref (o.G.ad (2 + r))), (2, .int (nI (k)))] [] := by
    intro d
    induction d with
    | zero => intro i B1 hd; omega
    | succ d ih =>
      intro i B1 hd k1 k2 k3 k4
      have hr1 : ye (yq (sI S 22 B1) c2) r = F := (ye_sI S (by omega) B1).trans hF
      refine y_iload (pc' := 56) hB dc_Pi_joinWithNext_54 rfl 0 rfl ?_
      refine y_aload_n (pc' := 57) hB dc_Pi_joinWithNext_56 rfl rfl 4 rfl ?_
      refine f_P_height (pc' := 60) hB dc_Pi_joinWithNext_57 rfl q_92 ?_
      refine y_topi (y := nI (h)) ((gF_yq21 (sI S 22 B1) c2).trans hh) ?_
      refine n_icmp_ge (pc' := 63) (tg := 85) hB dc_Pi_joinWithNext_60 rfl rfl (by omega) (by omega) (fun b1 => ?_) (fun b1 => ?_)
      · refine y_aload_n (pc' := 86) hB dc_Pi_joinWithNext_85 rfl rfl 4 rfl ?_
        refine f_P_spare (pc' := 89) hB dc_Pi_joinWithNext_86 rfl q_89 ?_
        refine y_iconst (v := nI 0) (pc' := 90) hB dc_Pi_joinWithNext_89 rfl rfl ?_
        refine y_aload_n (pc' := 91) hB dc_Pi_joinWithNext_90 rfl rfl 5 rfl ?_
        refine y_iload (pc' := 93) hB dc_Pi_joinWithNext_91 rfl 1 rfl ?_
        refine y_iload_n (pc' := 94) hB dc_Pi_joinWithNext_93 rfl rfl 3 rfl ?_
        refine y_iload (pc' := 96) hB dc_Pi_joinWithNext_94 rfl 1 rfl ?_
        refine n_isub (x := m) (y := p) (pc' := 97) hB dc_Pi_joinWithNext_96 rfl (by omega) ?_
        refine y_callV (c := 2 + 5) (ci := 1) (As := [.int (nI (0)), .ref (o.G.ad (2 + r)), .int (nI (p)), .int (nI (m - p))]) (rest := []) (pc' := 100) hB hE (ct_R_takeMany o.l o.G (yq (sI S 22 B1) c2) 5 (by decide) r hr 0 p (m - p) (by omega) (by omega)) mm_R_takeMany q_505 q_315 q_316 (by unfold yN; omega) (yk_row (by omega)).1 rfl dc_Pi_joinWithNext_97 rfl (by decide) rfl rfl (Nat.le_of_ble_eq_true rfl) (fun v S' hpost => ?_)
        obtain ⟨rfl, hSS⟩ := hpost
        rw [hSS]
        clear hSS S'
        show yW o (yz (yq (sI S 22 B1) c2) 5 (va_cpy (ye (yq (sI S 22 B1) c2) r) (ye (yq (sI S 22 B1) c2) 5) p 0 (m - p))) 100 [(6, .int (nI (i))), (5, .int (nI (p))), (4, .int (nI (b))), (3, .int (nI (m))), (0, .ref (o.G.ad (21))), (1, .ref (o.G.ad (2 + r))), (2, .int (nI (k)))] []
        obtain ⟨A, hA⟩ : ∃ z, z = va_cpy (ye (yq (sI S 22 B1) c2) r) (ye (yq (sI S 22 B1) c2) 5) p 0 (m - p) := ⟨_, rfl⟩
        rw [← hA]
        refine y_aload_n (pc' := 101) hB dc_Pi_joinWithNext_100 rfl rfl 4 rfl ?_
        refine y_aload_n (pc' := 102) hB dc_Pi_joinWithNext_101 rfl rfl 5 rfl ?_
        refine y_iload (pc' := 104) hB dc_Pi_joinWithNext_102 rfl 1 rfl ?_
        refine y_iload_n (pc' := 105) hB dc_Pi_joinWithNext_104 rfl rfl 3 rfl ?_
        refine y_iload (pc' := 107) hB dc_Pi_joinWithNext_105 rfl 2 rfl ?_
        refine y_callV (c := 21) (ci := 3) (As := [.ref (o.G.ad (2 + r)), .int (nI (p)), .int (nI (m)), .int (nI (b))]) (rest := []) (pc' := 110) hB hE (ct_Pi_joinFromSpare o.l o.G (yz (yq (sI S 22 B1) c2) 5 A) od tg c2 (yJ_yz (yJ_yq (S := sI S 22 B1) hJ c2) 5 A) r hr hr5 p m b n2 (by omega) hb F ((ye_yz_ne _ A (fun z => hr5 z.symm)).trans hr1) (fun j hj => by rw [ye_yz, hA, hr1, pk_cpy_in (by omega) (by omega), Nat.sub_zero]) (fun i j e1 e2 e3 => o1 i j (by omega) e2 e3) o2) mm_Pi_joinFromSpare q_506 q_508 qs_7 (by decide) rfl rfl dc_Pi_joinWithNext_107 rfl (by decide) rfl rfl (Nat.le_of_ble_eq_true rfl) (fun v S' hpost => ?_)
        obtain ⟨g', c3, rfl, rfl, m1, m2, m3, m4⟩ := hpost
        show yW o (yq (yz (yz (yq (sI S 22 B1) c2) 5 A) r g') c3) 110 [(6, .int (nI (i))), (5, .int (nI (p))), (4, .int (nI (b))), (3, .int (nI (m))), (0, .ref (o.G.ad (21))), (1, .ref (o.G.ad (2 + r))), (2, .int (nI (k)))] []
        have hS : yq (yz (yz (yq (sI S 22 B1) c2) 5 A) r g') c3 = yq (yz (yz (sI S 22 B1) 5 A) r g') c3 := by
          show yq (yq (yz (yz (sI S 22 B1) 5 A) r g') c2) c3 = _
          rw [yq_yq]
        rw [hS]
        obtain ⟨z1, z2⟩ := zjoin2 n1 n2 hmb o1 o2 (fun j e1 e2 => zcd_t.mp (n3 j e1 e2)) m1 m2 m3
        exact y_vret hB hE dc_Pi_joinWithNext_110 ⟨B1, A, g', c3, rfl, rfl, k2, fun i e1 e2 => k3 i e1 (by omega), fun j hj => m1 j (by omega), z1, z2, by omega⟩
      · refine y_aload_n (pc' := 64) hB dc_Pi_joinWithNext_63 rfl rfl 4 rfl ?_
        refine f_P_borders (pc' := 67) hB dc_Pi_joinWithNext_64 rfl q_91 ?_
        refine y_iload (pc' := 69) hB dc_Pi_joinWithNext_67 rfl 0 rfl ?_
        refine y_aload_n (pc' := 70) hB dc_Pi_joinWithNext_69 rfl rfl 4 rfl ?_
        refine f_P_borders (pc' := 73) hB dc_Pi_joinWithNext_70 rfl q_91 ?_
        refine y_iload (pc' := 75) hB dc_Pi_joinWithNext_73 rfl 0 rfl ?_
        refine y_iconst (v := nI 1) (pc' := 76) hB dc_Pi_joinWithNext_75 rfl rfl ?_
        refine n_iadd (x := i) (y := 1) (pc' := 77) hB dc_Pi_joinWithNext_76 rfl ?_
        refine y_iald (c := 22) (n := 66) (j := i + 1) (pc' := 78) hB dc_Pi_joinWithNext_77 rfl (by decide) rfl (by omega) (by decide) ?_
        refine y_topi (y := gI S 22 (i + 1)) (by show gI (sI S 22 B1) 22 (i + 1) = _; rw [gI_same]; exact k4 _ (by omega)) ?_
        refine y_iast (c := 22) (n := 66) (j := i) (pc' := 79) hB dc_Pi_joinWithNext_78 rfl (by decide) rfl (by omega) (by decide) ?_
        have hS : sI (yq (sI S 22 B1) c2) 22 (upd (gI (yq (sI S 22 B1) c2) 22) i (gI S 22 (i + 1))) = yq (sI S 22 (upd B1 i (gI S 22 (i + 1)))) c2 := by
          show yq (sI (sI S 22 B1) 22 (upd (gI (sI S 22 B1) 22) i _)) c2 = _
          rw [gI_same, sI_sI]
        rw [hS]
        refine n_inc (q := 0) (z := 1) (pc' := 82) (lv' := [(6, .int (nI (i + 1))), (5, .int (nI (p))), (4, .int (nI (b))), (3, .int (nI (m))), (0, .ref (o.G.ad (21))), (1, .ref (o.G.ad (2 + r))), (2, .int (nI (k)))]) hB hm dc_Pi_joinWithNext_79 rfl rfl (by decide) rfl ?_
        refine y_goto (tg := 54) hB dc_Pi_joinWithNext_82 rfl ?_
        refine y_sub [0, 1, 2, 3, 4, 5, 6] rfl ?_
        refine ih (i + 1) _ (by omega) (by omega) (fun u e1 => ?_) (fun u e1 e2 => ?_) (fun u e1 => ?_)
        · unfold upd; rw [if_neg (by omega)]; exact k2 u e1
        · unfold upd
          by_cases e : u = i
          · rw [if_pos e, e]
          · rw [if_neg e]; exact k3 u e1 (by omega)
        · unfold upd; rw [if_neg (by omega)]; exact k4 u (by omega)
  have h0 := loop (h + 1) (k + 1) (gI S 22) (by omega) (by omega) (fun _ _ => rfl) (fun u e1 e2 => by omega) (fun _ _ => rfl)
  rw [sI_self] at h0
  exact h0
