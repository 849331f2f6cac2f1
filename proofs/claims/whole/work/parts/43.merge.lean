/-! MERGING: arrange -/
theorem dc_Me_arrange_0 : decode mb_Me_arrange 0 = .ok (.aload_n 0, 1) := by decide +kernel
theorem dc_Me_arrange_1 : decode mb_Me_arrange 1 = .ok (.getfield 7, 3) := by decide +kernel
theorem dc_Me_arrange_4 : decode mb_Me_arrange 4 = .ok (.istore_n 3, 1) := by decide +kernel
theorem dc_Me_arrange_5 : decode mb_Me_arrange 5 = .ok (.iconst 0, 1) := by decide +kernel
theorem dc_Me_arrange_6 : decode mb_Me_arrange 6 = .ok (.istore 4, 2) := by decide +kernel
theorem dc_Me_arrange_8 : decode mb_Me_arrange 8 = .ok (.iconst 1, 1) := by decide +kernel
theorem dc_Me_arrange_9 : decode mb_Me_arrange 9 = .ok (.istore 5, 2) := by decide +kernel
theorem dc_Me_arrange_11 : decode mb_Me_arrange 11 = .ok (.iload 5, 2) := by decide +kernel
theorem dc_Me_arrange_13 : decode mb_Me_arrange 13 = .ok (.iload_n 3, 1) := by decide +kernel
theorem dc_Me_arrange_14 : decode mb_Me_arrange 14 = .ok (.if_icmp .ge 82, 3) := by decide +kernel
theorem dc_Me_arrange_17 : decode mb_Me_arrange 17 = .ok (.iconst 0, 1) := by decide +kernel
theorem dc_Me_arrange_18 : decode mb_Me_arrange 18 = .ok (.istore 6, 2) := by decide +kernel
theorem dc_Me_arrange_20 : decode mb_Me_arrange 20 = .ok (.iload 6, 2) := by decide +kernel
theorem dc_Me_arrange_22 : decode mb_Me_arrange 22 = .ok (.iload_n 3, 1) := by decide +kernel
theorem dc_Me_arrange_23 : decode mb_Me_arrange 23 = .ok (.if_icmp .ge 56, 3) := by decide +kernel
theorem dc_Me_arrange_26 : decode mb_Me_arrange 26 = .ok (.iload 6, 2) := by decide +kernel
theorem dc_Me_arrange_28 : decode mb_Me_arrange 28 = .ok (.iload 5, 2) := by decide +kernel
theorem dc_Me_arrange_30 : decode mb_Me_arrange 30 = .ok (.iadd, 1) := by decide +kernel
theorem dc_Me_arrange_31 : decode mb_Me_arrange 31 = .ok (.iload_n 3, 1) := by decide +kernel
theorem dc_Me_arrange_32 : decode mb_Me_arrange 32 = .ok (.invokestatic 13, 3) := by decide +kernel
theorem dc_Me_arrange_35 : decode mb_Me_arrange 35 = .ok (.istore 7, 2) := by decide +kernel
theorem dc_Me_arrange_37 : decode mb_Me_arrange 37 = .ok (.iload 6, 2) := by decide +kernel
theorem dc_Me_arrange_39 : decode mb_Me_arrange 39 = .ok (.iconst 2, 1) := by decide +kernel
theorem dc_Me_arrange_40 : decode mb_Me_arrange 40 = .ok (.iload 5, 2) := by decide +kernel
theorem dc_Me_arrange_42 : decode mb_Me_arrange 42 = .ok (.imul, 1) := by decide +kernel
theorem dc_Me_arrange_43 : decode mb_Me_arrange 43 = .ok (.iadd, 1) := by decide +kernel
theorem dc_Me_arrange_44 : decode mb_Me_arrange 44 = .ok (.iload_n 3, 1) := by decide +kernel
theorem dc_Me_arrange_45 : decode mb_Me_arrange 45 = .ok (.invokestatic 13, 3) := by decide +kernel
theorem dc_Me_arrange_48 : decode mb_Me_arrange 48 = .ok (.istore 8, 2) := by decide +kernel
theorem dc_Me_arrange_50 : decode mb_Me_arrange 50 = .ok (.iload 4, 2) := by decide +kernel
theorem dc_Me_arrange_52 : decode mb_Me_arrange 52 = .ok (.aload_n 0, 1) := by decide +kernel
theorem dc_Me_arrange_53 : decode mb_Me_arrange 53 = .ok (.iload 6, 2) := by decide +kernel
theorem dc_Me_arrange_55 : decode mb_Me_arrange 55 = .ok (.iload 7, 2) := by decide +kernel
theorem dc_Me_arrange_57 : decode mb_Me_arrange 57 = .ok (.iload 8, 2) := by decide +kernel
theorem dc_Me_arrange_59 : decode mb_Me_arrange 59 = .ok (.aload_n 1, 1) := by decide +kernel
theorem dc_Me_arrange_60 : decode mb_Me_arrange 60 = .ok (.aload_n 2, 1) := by decide +kernel
theorem dc_Me_arrange_61 : decode mb_Me_arrange 61 = .ok (.invokestatic 19, 3) := by decide +kernel
theorem dc_Me_arrange_64 : decode mb_Me_arrange 64 = .ok (.iadd, 1) := by decide +kernel
theorem dc_Me_arrange_65 : decode mb_Me_arrange 65 = .ok (.istore 4, 2) := by decide +kernel
theorem dc_Me_arrange_67 : decode mb_Me_arrange 67 = .ok (.iload 6, 2) := by decide +kernel
theorem dc_Me_arrange_69 : decode mb_Me_arrange 69 = .ok (.iconst 2, 1) := by decide +kernel
theorem dc_Me_arrange_70 : decode mb_Me_arrange 70 = .ok (.iload 5, 2) := by decide +kernel
theorem dc_Me_arrange_72 : decode mb_Me_arrange 72 = .ok (.imul, 1) := by decide +kernel
theorem dc_Me_arrange_73 : decode mb_Me_arrange 73 = .ok (.iadd, 1) := by decide +kernel
theorem dc_Me_arrange_74 : decode mb_Me_arrange 74 = .ok (.istore 6, 2) := by decide +kernel
theorem dc_Me_arrange_76 : decode mb_Me_arrange 76 = .ok (.goto (-56), 3) := by decide +kernel
theorem dc_Me_arrange_79 : decode mb_Me_arrange 79 = .ok (.aload_n 0, 1) := by decide +kernel
theorem dc_Me_arrange_80 : decode mb_Me_arrange 80 = .ok (.iconst 0, 1) := by decide +kernel
theorem dc_Me_arrange_81 : decode mb_Me_arrange 81 = .ok (.aload_n 1, 1) := by decide +kernel
theorem dc_Me_arrange_82 : decode mb_Me_arrange 82 = .ok (.iconst 0, 1) := by decide +kernel
theorem dc_Me_arrange_83 : decode mb_Me_arrange 83 = .ok (.iload_n 3, 1) := by decide +kernel
theorem dc_Me_arrange_84 : decode mb_Me_arrange 84 = .ok (.invokevirtual 25, 3) := by decide +kernel
theorem dc_Me_arrange_87 : decode mb_Me_arrange 87 = .ok (.iload 5, 2) := by decide +kernel
theorem dc_Me_arrange_89 : decode mb_Me_arrange 89 = .ok (.iconst 2, 1) := by decide +kernel
theorem dc_Me_arrange_90 : decode mb_Me_arrange 90 = .ok (.imul, 1) := by decide +kernel
theorem dc_Me_arrange_91 : decode mb_Me_arrange 91 = .ok (.istore 5, 2) := by decide +kernel
theorem dc_Me_arrange_93 : decode mb_Me_arrange 93 = .ok (.goto (-82), 3) := by decide +kernel
theorem dc_Me_arrange_96 : decode mb_Me_arrange 96 = .ok (.iload 4, 2) := by decide +kernel
theorem dc_Me_arrange_98 : decode mb_Me_arrange 98 = .ok (.ireturn, 1) := by decide +kernel
theorem zdv1 {W k i : Nat} (h1 : 2 * (W * k) ≤ i) (h2 : i < 2 * (W * k) + W) : i / W = 2 * k := by
  apply Nat.div_eq_of_lt_le
  · rw [Nat.mul_assoc, Nat.mul_comm k W]; exact h1
  · rw [Nat.succ_mul, Nat.mul_assoc, Nat.mul_comm k W]; exact h2
theorem zdv2 {W k i : Nat} (h1 : 2 * (W * k) + W ≤ i) (h2 : i < 2 * (W * k) + 2 * W) : i / W = 2 * k + 1 := by
  apply Nat.div_eq_of_lt_le
  · rw [Nat.succ_mul, Nat.mul_assoc, Nat.mul_comm k W]; exact h1
  · rw [Nat.succ_mul, Nat.succ_mul, Nat.mul_assoc, Nat.mul_comm k W]; omega
theorem zdv3 {W k i : Nat} (h1 : 2 * (W * k) ≤ i) (h2 : i < 2 * (W * k) + 2 * W) : i / (2 * W) = k := by
  have e : 2 * (W * k) = k * (2 * W) := by rw [← Nat.mul_assoc, Nat.mul_comm]
  apply Nat.div_eq_of_lt_le
  · omega
  · rw [Nat.succ_mul]; omega
theorem zdv4 {W k i : Nat} (hW : 0 < W) (h : i / (2 * W) = k) : 2 * (W * k) ≤ i := by
  subst h
  have h1 := Nat.div_mul_le_self i (2 * W)
  have e : 2 * (W * (i / (2 * W))) = i / (2 * W) * (2 * W) := by rw [← Nat.mul_assoc, Nat.mul_comm]
  omega
theorem yqz (T : YS) (q c2 c3 : Nat) (g2 g3 : Nat → Int64 × Int32) : yq (yz (yq (yz T q g2) c2) q g3) c3 = yq (yz T q g3) c3 := by
  show yq (yq (yz (yz T q g2) q g3) c2) c3 = _
  rw [yq_yq, yz_yz]
theorem yqzr (S : YS) {r q : Nat} (h : r ≠ q) (c2 : Nat) (f1 g2 h1 : Nat → Int64 × Int32) : yz (yq (yz (yz S r f1) q g2) c2) r h1 = yq (yz (yz S r h1) q g2) c2 := by
  show yq (yz (yz (yz S r f1) q g2) r h1) c2 = _
  rw [yz_comm (yz S r f1) g2 h1 (fun z => h z.symm), yz_yz]
set_option maxHeartbeats 4000000 in
set_option maxRecDepth 100000 in
theorem ct_Me_arrange (la : Launch) (g : YG) (S : YS) (od : Nat) (tg : Bool) (c : Nat) (hJ : yJ S od tg c) (r : Nat) (hr : r < 6) (q : Nat) (hq : q < 6) (hqr : r ≠ q) (n : Nat) (hn : n ≤ 1024) (hc : gF S (2 + r) 2 = nI n) (l : Nat) (hl2 : n ≤ 2 ^ l) : yC la mn_Me_arrange mb_Me_arrange 9 (some .int) 5 g [.ref (g.ad (2 + r)), .ref (g.ad (2 + q)), .ref (g.ad (20))] S (fun v S' => ∃ f' g' c', v = some (.int (nI (zj (zq od tg) (zs (ye S r) 0 n)))) ∧ S' = yq (yz (yz S r f') q g') c' ∧ zo (zq od tg) (zs f' 0 n) ∧ ze (zq od tg) (zs f' 0 n) (zs (ye S r) 0 n) ∧ (∀ j, n ≤ j → f' j = (ye S r) j) ∧ c' ≤ c + n * l) := by
  refine yC_of (by decide) (Nat.le_of_ble_eq_true rfl) ?_
  intro o hl hg hB0 hE
  subst hl
  subst hg
  have hB : yB o mb_Me_arrange "OrderBench$Merging" := hB0
  have hm := hE.1
  show yW o (S) 0 [(0, .ref (o.G.ad (2 + r))), (1, .ref (o.G.ad (2 + q))), (2, .ref (o.G.ad (20)))] []
  refine y_aload_n (pc' := 1) hB dc_Me_arrange_0 rfl rfl 0 rfl ?_
  refine f_count (r := r) (pc' := 4) hB dc_Me_arrange_1 rfl (by omega) q_51 ?_
  refine y_topi (y := nI (n)) hc ?_
  refine y_istore_n (pc' := 5) (lv' := [(3, .int (nI (n))), (0, .ref (o.G.ad (2 + r))), (1, .ref (o.G.ad (2 + q))), (2, .ref (o.G.ad (20)))]) hB hm dc_Me_arrange_4 rfl rfl (by decide) rfl ?_
  refine y_iconst (v := nI 0) (pc' := 6) hB dc_Me_arrange_5 rfl rfl ?_
  refine y_istore (pc' := 8) (lv' := [(4, .int (nI (0))), (3, .int (nI (n))), (0, .ref (o.G.ad (2 + r))), (1, .ref (o.G.ad (2 + q))), (2, .ref (o.G.ad (20)))]) hB hm dc_Me_arrange_6 rfl (by decide) rfl ?_
  refine y_iconst (v := nI 1) (pc' := 9) hB dc_Me_arrange_8 rfl rfl ?_
  refine y_istore (pc' := 11) (lv' := [(5, .int (nI (1))), (4, .int (nI (0))), (3, .int (nI (n))), (0, .ref (o.G.ad (2 + r))), (1, .ref (o.G.ad (2 + q))), (2, .ref (o.G.ad (20)))]) hB hm dc_Me_arrange_9 rfl (by decide) rfl ?_
  have outer : ∀ (d : Nat) (W w T c1 : Nat) (f1 g1 : Nat → Int64 × Int32), 2048 - W < d → W = 2 ^ w → (∀ i j, i < j → j < n → i / W = j / W → zq od tg (f1 i) ≤ zq od tg (f1 j)) → ze (zq od tg) (zs f1 0 n) (zs (ye S r) 0 n) → T + zj (zq od tg) (zs f1 0 n) = zj (zq od tg) (zs (ye S r) 0 n) → (∀ j, n ≤ j → f1 j = (ye S r) j) → c1 ≤ c + n * w → w ≤ l → W ≤ 2047 → yW o (yq (yz (yz S r f1) q g1) c1) 11 [(5, .int (nI (W))), (4, .int (nI (T))), (3, .int (nI (n))), (0, .ref (o.G.ad (2 + r))), (1, .ref (o.G.ad (2 + q))), (2, .ref (o.G.ad (20)))] [] := by
    intro d
    induction d with
    | zero => intro W w T c1 f1 g1 hd; omega
    | succ d ih =>
      intro W w T c1 f1 g1 hd h0 h1 h2 h3 h4 h5 h6 h7
      have hW : 0 < W := by rw [h0]; exact Nat.two_pow_pos w
      refine y_iload (pc' := 13) hB dc_Me_arrange_11 rfl 0 rfl ?_
      refine y_iload_n (pc' := 14) hB dc_Me_arrange_13 rfl rfl 2 rfl ?_
      refine n_icmp_ge (pc' := 17) (tg := 96) hB dc_Me_arrange_14 rfl rfl (by omega) (by omega) (fun h => ?_) (fun h => ?_)
      · refine y_iload (pc' := 98) hB dc_Me_arrange_96 rfl 1 rfl ?_
        have ho : zo (zq od tg) (zs f1 0 n) := by
          rw [zo_zs]
          intro i j hij hj
          rw [Nat.zero_add, Nat.zero_add]
          exact h1 i j hij hj (by rw [Nat.div_eq_of_lt (by omega), Nat.div_eq_of_lt (by omega)])
        rw [zj_o ho, Nat.add_zero] at h3
        have h8 : n * w ≤ n * l := Nat.mul_le_mul_left n h6
        exact y_iret hB hE dc_Me_arrange_98 ⟨f1, g1, c1, by rw [h3], rfl, ho, h2, h4, by omega⟩
      · refine y_iconst (v := nI 0) (pc' := 18) hB dc_Me_arrange_17 rfl rfl ?_
        refine y_istore (pc' := 20) (lv' := [(6, .int (nI (0))), (5, .int (nI (W))), (4, .int (nI (T))), (3, .int (nI (n))), (0, .ref (o.G.ad (2 + r))), (1, .ref (o.G.ad (2 + q))), (2, .ref (o.G.ad (20)))]) hB hm dc_Me_arrange_18 rfl (by decide) rfl ?_
        have inner : ∀ (d2 : Nat) (fr k T1 c2 : Nat) (g2 : Nat → Int64 × Int32), n - fr < d2 → fr = 2 * (W * k) → (∀ i j, i < j → j < fr → j < n → i / (2 * W) = j / (2 * W) → zq od tg (g2 i) ≤ zq od tg (g2 j)) → ze (zq od tg) (zs g2 0 (min fr n)) (zs f1 0 (min fr n)) → T1 + zj (zq od tg) (zs g2 0 (min fr n) ++ zs f1 (min fr n) (n - min fr n)) = zj (zq od tg) (zs (ye S r) 0 n) → c2 ≤ c1 + min fr n → fr ≤ 4096 → yW o (yq (yz (yz S r f1) q g2) c2) 20 [(6, .int (nI (fr))), (5, .int (nI (W))), (4, .int (nI (T1))), (3, .int (nI (n))), (0, .ref (o.G.ad (2 + r))), (1, .ref (o.G.ad (2 + q))), (2, .ref (o.G.ad (20)))] [] := by
          intro d2
          induction d2 with
          | zero => intro fr k T1 c2 g2 hd2; omega
          | succ d2 ih2 =>
            intro fr k T1 c2 g2 hd2 k0 k1 k2 k3 k4 k5
            refine y_iload (pc' := 22) hB dc_Me_arrange_20 rfl 0 rfl ?_
            refine y_iload_n (pc' := 23) hB dc_Me_arrange_22 rfl rfl 3 rfl ?_
            refine n_icmp_ge (pc' := 26) (tg := 79) hB dc_Me_arrange_23 rfl rfl (by omega) (by omega) (fun h => ?_) (fun h => ?_)
            · have e1 : min fr n = n := by omega
              rw [e1] at k2 k3 k4
              rw [Nat.sub_self, zs_zero, List.append_nil] at k3
              have hq2 : ye (yq (yz (yz S r f1) q g2) c2) q = g2 := ye_yz (yz S r f1) q g2
              have hr2 : ye (yq (yz (yz S r f1) q g2) c2) r = f1 := (ye_yz_ne (yz S r f1) g2 hqr).trans (ye_yz S r f1)
              refine y_aload_n (pc' := 80) hB dc_Me_arrange_79 rfl rfl 4 rfl ?_
              refine y_iconst (v := nI 0) (pc' := 81) hB dc_Me_arrange_80 rfl rfl ?_
              refine y_aload_n (pc' := 82) hB dc_Me_arrange_81 rfl rfl 5 rfl ?_
              refine y_iconst (v := nI 0) (pc' := 83) hB dc_Me_arrange_82 rfl rfl ?_
              refine y_iload_n (pc' := 84) hB dc_Me_arrange_83 rfl rfl 3 rfl ?_
              refine y_callV (c := 2 + r) (ci := 1) (As := [.int (nI (0)), .ref (o.G.ad (2 + q)), .int (nI (0)), .int (nI (n))]) (rest := []) (pc' := 87) hB hE (ct_R_takeMany o.l o.G (yq (yz (yz S r f1) q g2) c2) r hr q hq 0 0 n (by omega) (by omega)) mm_R_takeMany q_450 q_315 q_316 (by unfold yN; omega) (yk_row (by omega)).1 rfl dc_Me_arrange_84 rfl (by decide) rfl rfl (Nat.le_of_ble_eq_true rfl) (fun v S' hpost => ?_)
              obtain ⟨rfl, hSS⟩ := hpost
              rw [hSS]
              clear hSS S'
              show yW o (yz (yq (yz (yz S r f1) q g2) c2) r (va_cpy (ye (yq (yz (yz S r f1) q g2) c2) q) (ye (yq (yz (yz S r f1) q g2) c2) r) 0 0 n)) 87 [(6, .int (nI (fr))), (5, .int (nI (W))), (4, .int (nI (T1))), (3, .int (nI (n))), (0, .ref (o.G.ad (2 + r))), (1, .ref (o.G.ad (2 + q))), (2, .ref (o.G.ad (20)))] []
              rw [hq2, hr2, yqzr S hqr]
              refine y_iload (pc' := 89) hB dc_Me_arrange_87 rfl 1 rfl ?_
              refine y_iconst (v := nI 2) (pc' := 90) hB dc_Me_arrange_89 rfl rfl ?_
              refine n_imul (x := W) (y := 2) (pc' := 91) hB dc_Me_arrange_90 rfl ?_
              refine y_istore (pc' := 93) (lv' := [(5, .int (nI (W * 2))), (6, .int (nI (fr))), (4, .int (nI (T1))), (3, .int (nI (n))), (0, .ref (o.G.ad (2 + r))), (1, .ref (o.G.ad (2 + q))), (2, .ref (o.G.ad (20)))]) hB hm dc_Me_arrange_91 rfl (by decide) rfl ?_
              refine y_goto (tg := 11) hB dc_Me_arrange_93 rfl ?_
              refine y_sub [0, 2, 3, 4, 5, 6] rfl ?_
              have e3 : ∀ j, j < n → va_cpy g2 f1 0 0 n j = g2 j := fun j hj => by rw [pk_cpy_in (by omega) (by omega)]; congr 1; omega
              have e4 : zs (va_cpy g2 f1 0 0 n) 0 n = zs g2 0 n := zs_congr (fun j hj => by rw [Nat.zero_add]; exact e3 j hj)
              have e5 : w < l := by
                have e6 : 2 ^ w < 2 ^ l := by omega
                exact (Nat.pow_lt_pow_iff_right (by decide)).mp e6
              refine ih (W * 2) (w + 1) T1 c2 _ g2 (by omega) (by rw [Nat.pow_succ, h0]) (fun i j hij hj hdv => ?_) ?_ ?_ (fun j hj => ?_) ?_ (by omega) (by omega)
              · rw [e3 i (by omega), e3 j hj]
                rw [Nat.mul_comm W 2] at hdv
                exact k1 i j hij (by omega) hj hdv
              · rw [e4]; exact k2.tr h2
              · rw [e4]; exact k3
              · rw [pk_cpy_out (Or.inr (by omega))]; exact h4 j hj
              · rw [Nat.mul_succ]; omega
            · have hq2 : ye (yq (yz (yz S r f1) q g2) c2) q = g2 := ye_yz (yz S r f1) q g2
              have hr2 : ye (yq (yz (yz S r f1) q g2) c2) r = f1 := (ye_yz_ne (yz S r f1) g2 hqr).trans (ye_yz S r f1)
              refine y_iload (pc' := 28) hB dc_Me_arrange_26 rfl 0 rfl ?_
              refine y_iload (pc' := 30) hB dc_Me_arrange_28 rfl 1 rfl ?_
              refine n_iadd (x := fr) (y := W) (pc' := 31) hB dc_Me_arrange_30 rfl ?_
              refine y_iload_n (pc' := 32) hB dc_Me_arrange_31 rfl rfl 3 rfl ?_
              refine y_mmin (x := fr + W) (y := n) (pc' := 35) hB hE dc_Me_arrange_32 rfl q_442 (by omega) (by omega) (Nat.le_of_ble_eq_true rfl) ?_
              obtain ⟨md, hmd⟩ : ∃ z, z = min (fr + W) n := ⟨_, rfl⟩
              rw [← hmd]
              refine y_istore (pc' := 37) (lv' := [(7, .int (nI (md))), (6, .int (nI (fr))), (5, .int (nI (W))), (4, .int (nI (T1))), (3, .int (nI (n))), (0, .ref (o.G.ad (2 + r))), (1, .ref (o.G.ad (2 + q))), (2, .ref (o.G.ad (20)))]) hB hm dc_Me_arrange_35 rfl (by decide) rfl ?_
              refine y_iload (pc' := 39) hB dc_Me_arrange_37 rfl 1 rfl ?_
              refine y_iconst (v := nI 2) (pc' := 40) hB dc_Me_arrange_39 rfl rfl ?_
              refine y_iload (pc' := 42) hB dc_Me_arrange_40 rfl 2 rfl ?_
              refine n_imul (x := 2) (y := W) (pc' := 43) hB dc_Me_arrange_42 rfl ?_
              refine n_iadd (x := fr) (y := 2 * W) (pc' := 44) hB dc_Me_arrange_43 rfl ?_
              refine y_iload_n (pc' := 45) hB dc_Me_arrange_44 rfl rfl 4 rfl ?_
              refine y_mmin (x := fr + (2 * W)) (y := n) (pc' := 48) hB hE dc_Me_arrange_45 rfl q_442 (by omega) (by omega) (Nat.le_of_ble_eq_true rfl) ?_
              obtain ⟨tt, htt⟩ : ∃ z, z = min (fr + 2 * W) n := ⟨_, rfl⟩
              rw [← htt]
              refine y_istore (pc' := 50) (lv' := [(8, .int (nI (tt))), (7, .int (nI (md))), (6, .int (nI (fr))), (5, .int (nI (W))), (4, .int (nI (T1))), (3, .int (nI (n))), (0, .ref (o.G.ad (2 + r))), (1, .ref (o.G.ad (2 + q))), (2, .ref (o.G.ad (20)))]) hB hm dc_Me_arrange_48 rfl (by decide) rfl ?_
              refine y_iload (pc' := 52) hB dc_Me_arrange_50 rfl 4 rfl ?_
              refine y_aload_n (pc' := 53) hB dc_Me_arrange_52 rfl rfl 6 rfl ?_
              refine y_iload (pc' := 55) hB dc_Me_arrange_53 rfl 2 rfl ?_
              refine y_iload (pc' := 57) hB dc_Me_arrange_55 rfl 1 rfl ?_
              refine y_iload (pc' := 59) hB dc_Me_arrange_57 rfl 0 rfl ?_
              refine y_aload_n (pc' := 60) hB dc_Me_arrange_59 rfl rfl 7 rfl ?_
              refine y_aload_n (pc' := 61) hB dc_Me_arrange_60 rfl rfl 8 rfl ?_
              have o1 : ∀ i j, fr ≤ i → i < j → j < md → zq od tg (f1 i) ≤ zq od tg (f1 j) := fun i j q1 q2 q3 => h1 i j q2 (by omega) (by rw [zdv1 (k := k) (by omega) (by omega), zdv1 (k := k) (by omega) (by omega)])
              have o2 : ∀ i j, md ≤ i → i < j → j < tt → zq od tg (f1 i) ≤ zq od tg (f1 j) := fun i j q1 q2 q3 => h1 i j q2 (by omega) (by rw [zdv2 (k := k) (by omega) (by omega), zdv2 (k := k) (by omega) (by omega)])
              refine y_callS (As := [.ref (o.G.ad (2 + r)), .int (nI (fr)), .int (nI (md)), .int (nI (tt)), .ref (o.G.ad (2 + q)), .ref (o.G.ad (20))]) (rest := [.int (nI (T1))]) (pc' := 64) hB hE (ct_Me_join o.l o.G (yq (yz (yz S r f1) q g2) c2) od tg c2 (yJ_yq (yJ_yz (yJ_yz hJ r f1) q g2) c2) q hq r hr hqr fr md tt (by omega) (by omega) (by omega) (by rw [hr2]; exact o1) (by rw [hr2]; exact o2)) mm_Me_join q_445 q_446 dc_Me_arrange_61 rfl (by decide) rfl rfl (Nat.le_of_ble_eq_true rfl) (fun v S' hpost => ?_)
              obtain ⟨g3, c3, rfl, rfl, m1, m2, m3, m4⟩ := hpost
              rw [hr2] at m3
              rw [hq2] at m1
              rw [yqz, hr2]
              show yW o (yq (yz (yz S r f1) q g3) c3) 64 [(8, .int (nI (tt))), (7, .int (nI (md))), (6, .int (nI (fr))), (5, .int (nI (W))), (4, .int (nI (T1))), (3, .int (nI (n))), (0, .ref (o.G.ad (2 + r))), (1, .ref (o.G.ad (2 + q))), (2, .ref (o.G.ad (20)))] [.int (nI (zc (zq od tg) (zs f1 fr (md - fr)) (zs f1 md (tt - md)))), .int (nI (T1))]
              refine n_iadd (x := T1) (y := zc (zq od tg) (zs f1 fr (md - fr)) (zs f1 md (tt - md))) (pc' := 65) hB dc_Me_arrange_64 rfl ?_
              refine y_istore (pc' := 67) (lv' := [(4, .int (nI (T1 + (zc (zq od tg) (zs f1 fr (md - fr)) (zs f1 md (tt - md)))))), (8, .int (nI (tt))), (7, .int (nI (md))), (6, .int (nI (fr))), (5, .int (nI (W))), (3, .int (nI (n))), (0, .ref (o.G.ad (2 + r))), (1, .ref (o.G.ad (2 + q))), (2, .ref (o.G.ad (20)))]) hB hm dc_Me_arrange_65 rfl (by decide) rfl ?_
              refine y_iload (pc' := 69) hB dc_Me_arrange_67 rfl 3 rfl ?_
              refine y_iconst (v := nI 2) (pc' := 70) hB dc_Me_arrange_69 rfl rfl ?_
              refine y_iload (pc' := 72) hB dc_Me_arrange_70 rfl 4 rfl ?_
              refine n_imul (x := 2) (y := W) (pc' := 73) hB dc_Me_arrange_72 rfl ?_
              refine n_iadd (x := fr) (y := 2 * W) (pc' := 74) hB dc_Me_arrange_73 rfl ?_
              refine y_istore (pc' := 76) (lv' := [(6, .int (nI (fr + (2 * W)))), (4, .int (nI (T1 + (zc (zq od tg) (zs f1 fr (md - fr)) (zs f1 md (tt - md)))))), (8, .int (nI (tt))), (7, .int (nI (md))), (5, .int (nI (W))), (3, .int (nI (n))), (0, .ref (o.G.ad (2 + r))), (1, .ref (o.G.ad (2 + q))), (2, .ref (o.G.ad (20)))]) hB hm dc_Me_arrange_74 rfl (by decide) rfl ?_
              refine y_goto (tg := 20) hB dc_Me_arrange_76 rfl ?_
              refine y_sub [0, 4, 1, 5, 6, 7, 8] rfl ?_
              have e1 : min fr n = fr := by omega
              have e2 : min (fr + 2 * W) n = tt := by omega
              rw [e1] at k2 k3 k4
              have e7 : zs g3 0 fr = zs g2 0 fr := zs_congr (fun j hj => by rw [Nat.zero_add]; exact m1 j (by omega))
              have e8 : zs g3 0 tt = zs g2 0 fr ++ zs g3 fr (tt - fr) := by rw [zs_split _ 0 (show fr ≤ tt by omega), Nat.zero_add, e7]
              have e9 : zs f1 0 tt = zs f1 0 fr ++ zs f1 fr (tt - fr) := by rw [zs_split _ 0 (show fr ≤ tt by omega), Nat.zero_add]
              have e10 : zs f1 fr (tt - fr) = zs f1 fr (md - fr) ++ zs f1 md (tt - md) := by rw [zs_split _ fr (show md - fr ≤ tt - fr by omega), show fr + (md - fr) = md by omega, show tt - fr - (md - fr) = tt - md by omega]
              have e11 : zs f1 fr (n - fr) = zs f1 fr (tt - fr) ++ zs f1 tt (n - tt) := by rw [zs_split _ fr (show tt - fr ≤ n - fr by omega), show fr + (tt - fr) = tt by omega, show n - fr - (tt - fr) = n - tt by omega]
              refine ih2 (fr + 2 * W) (k + 1) (T1 + zc (zq od tg) (zs f1 fr (md - fr)) (zs f1 md (tt - md))) c3 g3 (by omega) (by rw [Nat.mul_succ]; omega) (fun i j q1 q2 q3 q4 => ?_) ?_ ?_ (by omega) (by omega)
              · by_cases hj : j < fr
                · rw [m1 i (by omega), m1 j (by omega)]
                  exact k1 i j q1 hj q3 q4
                · have hi : 2 * (W * k) ≤ i := zdv4 hW (q4.trans (zdv3 (by omega) (by omega)))
                  have hz := zo_zs.mp m2 (i - fr) (j - fr) (by omega) (by omega)
                  rwa [show fr + (i - fr) = i by omega, show fr + (j - fr) = j by omega] at hz
              · rw [e2, e8, e9]; exact k2.app m3
              · rw [e2, e8]
                have hz := zj_join (r := zq od tg) (A := zs g2 0 fr) (L := zs f1 fr (md - fr)) (R := zs f1 md (tt - md)) (M := zs g3 fr (tt - fr)) (B := zs f1 tt (n - tt)) ?_ ?_ m2 (by rw [← e10]; exact m3.to_perm)
                · rw [← e10] at hz
                  rw [e11, ← List.append_assoc] at k3
                  omega
                · rw [zo_zs]; intro i j q1 q2; exact o1 (fr + i) (fr + j) (by omega) (by omega) (by omega)
                · rw [zo_zs]; intro i j q1 q2; exact o2 (md + i) (md + j) (by omega) (by omega) (by omega)
        exact inner (n + 1) 0 0 T c1 g1 (by omega) (by omega) (fun i j q1 q2 => by omega) (by rw [Nat.zero_min, zs_zero, zs_zero]; exact ze.rf _) (by rw [Nat.zero_min, zs_zero, List.nil_append, Nat.sub_zero]; exact h3) (by omega) (by omega)
  have h0 := outer 2049 1 0 0 c (ye S r) (ye S q) (by omega) rfl (fun i j q1 q2 q3 => by rw [Nat.div_one, Nat.div_one] at q3; omega) (ze.rf _) (by omega) (fun _ _ => rfl) (by omega) (by omega) (by omega)
  rw [yz_self, yz_self, yq_self hJ] at h0
  exact h0
