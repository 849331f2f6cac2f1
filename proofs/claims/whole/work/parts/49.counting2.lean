/-! COUNTING: arrange -/
theorem dc_C_arrange_0 : decode mb_C_arrange 0 = .ok (.iload_n 3, 1) := by decide +kernel
theorem dc_C_arrange_1 : decode mb_C_arrange 1 = .ok (.iconst 5, 1) := by decide +kernel
theorem dc_C_arrange_2 : decode mb_C_arrange 2 = .ok (.if_icmp .ne 8, 3) := by decide +kernel
theorem dc_C_arrange_5 : decode mb_C_arrange 5 = .ok (.bipush 8, 2) := by decide +kernel
theorem dc_C_arrange_7 : decode mb_C_arrange 7 = .ok (.goto 5, 3) := by decide +kernel
theorem dc_C_arrange_10 : decode mb_C_arrange 10 = .ok (.bipush 64, 2) := by decide +kernel
theorem dc_C_arrange_12 : decode mb_C_arrange 12 = .ok (.istore 4, 2) := by decide +kernel
theorem dc_C_arrange_14 : decode mb_C_arrange 14 = .ok (.iload_n 3, 1) := by decide +kernel
theorem dc_C_arrange_15 : decode mb_C_arrange 15 = .ok (.invokestatic 9, 3) := by decide +kernel
theorem dc_C_arrange_18 : decode mb_C_arrange 18 = .ok (.lstore 5, 2) := by decide +kernel
theorem dc_C_arrange_20 : decode mb_C_arrange 20 = .ok (.iconst 0, 1) := by decide +kernel
theorem dc_C_arrange_21 : decode mb_C_arrange 21 = .ok (.istore 7, 2) := by decide +kernel
theorem dc_C_arrange_23 : decode mb_C_arrange 23 = .ok (.iload 7, 2) := by decide +kernel
theorem dc_C_arrange_25 : decode mb_C_arrange 25 = .ok (.iload 4, 2) := by decide +kernel
theorem dc_C_arrange_27 : decode mb_C_arrange 27 = .ok (.if_icmp .ge 19, 3) := by decide +kernel
theorem dc_C_arrange_30 : decode mb_C_arrange 30 = .ok (.aload_n 0, 1) := by decide +kernel
theorem dc_C_arrange_31 : decode mb_C_arrange 31 = .ok (.aload_n 1, 1) := by decide +kernel
theorem dc_C_arrange_32 : decode mb_C_arrange 32 = .ok (.aload_n 2, 1) := by decide +kernel
theorem dc_C_arrange_33 : decode mb_C_arrange 33 = .ok (.lload 5, 2) := by decide +kernel
theorem dc_C_arrange_35 : decode mb_C_arrange 35 = .ok (.iload 7, 2) := by decide +kernel
theorem dc_C_arrange_37 : decode mb_C_arrange 37 = .ok (.invokestatic 15, 3) := by decide +kernel
theorem dc_C_arrange_40 : decode mb_C_arrange 40 = .ok (.iinc 7 8, 3) := by decide +kernel
theorem dc_C_arrange_43 : decode mb_C_arrange 43 = .ok (.goto (-20), 3) := by decide +kernel
theorem dc_C_arrange_46 : decode mb_C_arrange 46 = .ok (.return_, 1) := by decide +kernel
theorem yn3 (S : YS) {r q : Nat} (hr : r < 6) (hq : q < 6) (h : r ≠ q) (h1 h2 : Nat → Int32) (g1 g2 f1 f2 : Nat → Int64 × Int32) : yz (yz (sI (yz (yz (sI S 23 h1) q g1) r f1) 23 h2) q g2) r f2 = yz (yz (sI S 23 h2) q g2) r f2 := by
  rw [sI_yz _ (by omega), sI_yz _ (by omega), sI_sI, yz_comm _ f1 g2 h, yz_yz, yz_yz]
/-- the lower k bytes -/
def zrk (T : Int64) (k : Nat) (e : Int64 × Int32) : Nat := uN (e.1 ^^^ T) % 2 ^ (8 * k)
theorem zrk_s (T : Int64) (k : Nat) (e : Int64 × Int32) : zrk T (k + 1) e = zrk T k e + 2 ^ (8 * k) * zby T (8 * k) e := by
  unfold zrk zby
  rw [show 8 * (k + 1) = 8 * k + 8 by omega, Nat.pow_add]
  exact Nat.mod_mul
theorem zrk_step {T : Int64} {k : Nat} {l0 l1 l2 : List (Int64 × Int32)} (o1 : zo (fun x => (zrk T k x : Int)) l1) (e1 : ze (fun x => (zrk T k x : Int)) l1 l0) (h2 : l2 = zbk (zby T (8 * k)) l1 256) : zo (fun x => (zrk T (k + 1) x : Int)) l2 ∧ ze (fun x => (zrk T (k + 1) x : Int)) l2 l0 := by
  have e : (fun x => ((zrk T (k + 1) x : Nat) : Int)) = (fun x => ((zrk T k x + 2 ^ (8 * k) * zby T (8 * k) x : Nat) : Int)) := funext fun x => by rw [zrk_s]
  rw [e, h2]
  exact zlsd (fun x => Nat.mod_lt _ (Nat.two_pow_pos _)) o1 e1 (zbk_o _ _ _) (zbk_e (fun x _ => zby_lt T _ x))
theorem zrk_0 {T : Int64} {l : List (Int64 × Int32)} : zo (fun x => (zrk T 0 x : Int)) l := by
  refine List.pairwise_of_forall_mem_list (fun x _ y _ => ?_)
  show ((uN (x.1 ^^^ T) % 1 : Nat) : Int) ≤ ((uN (y.1 ^^^ T) % 1 : Nat) : Int)
  omega
theorem zrk_end {od K : Nat} (h : (K = 1 ∧ od = 5) ∨ (K = 8 ∧ (od = 0 ∨ od = 1 ∨ od = 2))) : ∃ C : Int, ∀ x, zq od false x = (zrk (ztb od) K x : Int) + C := by
  rcases h with ⟨rfl, rfl⟩ | ⟨rfl, h⟩
  · refine ⟨0, fun x => ?_⟩
    show ((zu x.1 % 256 : Nat) : Int) = ((uN (x.1 ^^^ 0) % 2 ^ 8 : Nat) : Int) + 0
    rw [Int64.xor_zero, uN_zu, Int.add_zero]
  · obtain ⟨C, hC⟩ := zcnt_rank od h
    refine ⟨C, fun x => ?_⟩
    show zr od x.1 = ((uN (x.1 ^^^ ztb od) % 2 ^ 64 : Nat) : Int) + C
    rw [hC, Nat.mod_eq_of_lt (uN_lt _)]
    split <;> rfl
set_option maxHeartbeats 4000000 in
set_option maxRecDepth 100000 in
theorem ct_C_arrange (l : Launch) (g : YG) (S : YS) (r : Nat) (hr : r < 6) (q : Nat) (hq : q < 6) (hqr : r ≠ q) (n : Nat) (hn : n ≤ 1024) (hc : gF S (2 + r) 2 = nI n) (od : Nat) (ho : od = 0 ∨ od = 1 ∨ od = 2 ∨ od = 5) : yC l mn_C_arrange mb_C_arrange 8 none 3 g [.ref (g.ad (2 + r)), .ref (g.ad (2 + q)), .ref (g.ad (23)), .int (nI (od))] S (fun v S' => ∃ h' g' f', v = none ∧ S' = yz (yz (sI S 23 h') q g') r f' ∧ zo (zq od false) (zs f' 0 n) ∧ ze (zq od false) (zs f' 0 n) (zs (ye S r) 0 n) ∧ (∀ j, n ≤ j → f' j = (ye S r) j)) := by
  refine yC_of (by decide) (Nat.le_of_ble_eq_true rfl) ?_
  intro o hl hg hB0 hE
  subst hl
  subst hg
  have hB : yB o mb_C_arrange "OrderBench$Counting" := hB0
  have hm := hE.1
  show yW o (S) 0 [(0, .ref (o.G.ad (2 + r))), (1, .ref (o.G.ad (2 + q))), (2, .ref (o.G.ad (23))), (3, .int (nI (od)))] []
  have main : ∀ K, (K = 1 ∧ od = 5) ∨ (K = 8 ∧ (od = 0 ∨ od = 1 ∨ od = 2)) → yW o S 12 [(0, .ref (o.G.ad (2 + r))), (1, .ref (o.G.ad (2 + q))), (2, .ref (o.G.ad (23))), (3, .int (nI (od)))] [.int (nI (8 * K))] := by
    intro K hK
    refine y_istore (pc' := 14) (lv' := [(4, .int (nI (8 * K))), (0, .ref (o.G.ad (2 + r))), (1, .ref (o.G.ad (2 + q))), (2, .ref (o.G.ad (23))), (3, .int (nI (od)))]) hB hm dc_C_arrange_12 rfl (by decide) rfl ?_
    refine y_iload_n (pc' := 15) hB dc_C_arrange_14 rfl rfl 4 rfl ?_
    refine y_callS (As := [.int (nI (od))]) (rest := []) (pc' := 18) hB hE (ct_C_turnedBits o.l o.G S od (by omega)) mm_C_turnedBits q_514 q_515 dc_C_arrange_15 rfl (by decide) rfl rfl (Nat.le_of_ble_eq_true rfl) (fun v S' hpost => ?_)
    obtain ⟨rfl, hSS⟩ := hpost
    rw [hSS]
    clear hSS S'
    show yW o (S) 18 [(4, .int (nI (8 * K))), (0, .ref (o.G.ad (2 + r))), (1, .ref (o.G.ad (2 + q))), (2, .ref (o.G.ad (23))), (3, .int (nI (od)))] [.long (ztb od)]
    obtain ⟨T, hT⟩ : ∃ z, z = ztb od := ⟨_, rfl⟩
    rw [← hT]
    refine y_lstore (pc' := 20) (lv' := [(5, .long (T)), (4, .int (nI (8 * K))), (0, .ref (o.G.ad (2 + r))), (1, .ref (o.G.ad (2 + q))), (2, .ref (o.G.ad (23))), (3, .int (nI (od)))]) hB hm dc_C_arrange_18 rfl (by decide) rfl ?_
    refine y_iconst (v := nI 0) (pc' := 21) hB dc_C_arrange_20 rfl rfl ?_
    refine y_istore (pc' := 23) (lv' := [(7, .int (nI (0))), (5, .long (T)), (4, .int (nI (8 * K))), (0, .ref (o.G.ad (2 + r))), (1, .ref (o.G.ad (2 + q))), (2, .ref (o.G.ad (23))), (3, .int (nI (od)))]) hB hm dc_C_arrange_21 rfl (by decide) rfl ?_
    have loop : ∀ (d : Nat) (k : Nat) (h1 : Nat → Int32) (g1 f1 : Nat → Int64 × Int32), K - k < d → k ≤ K → zo (fun x => (zrk T k x : Int)) (zs f1 0 n) → ze (fun x => (zrk T k x : Int)) (zs f1 0 n) (zs (ye S r) 0 n) → (∀ j, n ≤ j → f1 j = (ye S r) j) → yW o (yz (yz (sI S 23 h1) q g1) r f1) 23 [(7, .int (nI (8 * k))), (5, .long (T)), (4, .int (nI (8 * K))), (0, .ref (o.G.ad (2 + r))), (1, .ref (o.G.ad (2 + q))), (2, .ref (o.G.ad (23))), (3, .int (nI (od)))] [] := by
      intro d
      induction d with
      | zero => intro k h1 g1 f1 hd; omega
      | succ d ih =>
        intro k h1 g1 f1 hd h2 h3 h4 h5
        refine y_iload (pc' := 25) hB dc_C_arrange_23 rfl 0 rfl ?_
        refine y_iload (pc' := 27) hB dc_C_arrange_25 rfl 2 rfl ?_
        refine n_icmp_ge (pc' := 30) (tg := 46) hB dc_C_arrange_27 rfl rfl (by omega) (by omega) (fun h => ?_) (fun h => ?_)
        · have e : k = K := by omega
          subst e
          obtain ⟨C, hC⟩ := zrk_end hK
          rw [← hT] at hC
          exact y_vret hB hE dc_C_arrange_46 ⟨h1, g1, f1, rfl, rfl, zo_shift hC h3, ze_shift hC h4, h5⟩
        · refine y_aload_n (pc' := 31) hB dc_C_arrange_30 rfl rfl 3 rfl ?_
          refine y_aload_n (pc' := 32) hB dc_C_arrange_31 rfl rfl 4 rfl ?_
          refine y_aload_n (pc' := 33) hB dc_C_arrange_32 rfl rfl 5 rfl ?_
          refine y_lload (pc' := 35) hB dc_C_arrange_33 rfl 1 rfl ?_
          refine y_iload (pc' := 37) hB dc_C_arrange_35 rfl 0 rfl ?_
          refine y_callS (As := [.ref (o.G.ad (2 + r)), .ref (o.G.ad (2 + q)), .ref (o.G.ad (23)), .long (T), .int (nI (8 * k))]) (rest := []) (pc' := 40) hB hE (ct_C_arrangeByByte o.l o.G (yz (yz (sI S 23 h1) q g1) r f1) r hr q hq hqr n hn hc T (8 * k) (by omega)) mm_C_arrangeByByte q_519 q_520 dc_C_arrange_37 rfl (by decide) rfl rfl (Nat.le_of_ble_eq_true rfl) (fun v S' hpost => ?_)
          obtain ⟨h2', g2, f2, rfl, rfl, m1, m2⟩ := hpost
          rw [ye_yz] at m1 m2
          rw [yn3 S hr hq hqr]
          show yW o (yz (yz (sI S 23 h2') q g2) r f2) 40 [(7, .int (nI (8 * k))), (5, .long (T)), (4, .int (nI (8 * K))), (0, .ref (o.G.ad (2 + r))), (1, .ref (o.G.ad (2 + q))), (2, .ref (o.G.ad (23))), (3, .int (nI (od)))] []
          refine n_inc (q := 0) (z := 8) (pc' := 43) (lv' := [(7, .int (nI (8 * k + 8))), (5, .long (T)), (4, .int (nI (8 * K))), (0, .ref (o.G.ad (2 + r))), (1, .ref (o.G.ad (2 + q))), (2, .ref (o.G.ad (23))), (3, .int (nI (od)))]) hB hm dc_C_arrange_40 rfl rfl (by decide) rfl ?_
          refine y_goto (tg := 23) hB dc_C_arrange_43 rfl ?_
          obtain ⟨n1, n2⟩ := zrk_step h3 h4 m1
          exact ih (k + 1) h2' g2 f2 (by omega) (by omega) n1 n2 (fun j hj => (m2 j hj).trans (h5 j hj))
    have h0 := loop (K + 1) 0 (gI S 23) (ye S q) (ye S r) (by omega) (by omega) zrk_0 (ze.rf _) (fun _ _ => rfl)
    rw [sI_self, yz_self, yz_self] at h0
    exact h0
  refine y_iload_n (pc' := 1) hB dc_C_arrange_0 rfl rfl 3 rfl ?_
  refine y_iconst (v := nI 5) (pc' := 2) hB dc_C_arrange_1 rfl rfl ?_
  refine n_icmp_ne (pc' := 5) (tg := 10) hB dc_C_arrange_2 rfl rfl (by omega) (by omega) (fun h5 => ?_) (fun h5 => ?_)
  · refine y_bipush (v := nI 64) (pc' := 12) hB dc_C_arrange_10 rfl (by decide) ?_
    exact main 8 (by omega)
  · refine y_bipush (v := nI 8) (pc' := 7) hB dc_C_arrange_5 rfl (by decide) ?_
    refine y_goto (tg := 12) hB dc_C_arrange_7 rfl ?_
    exact main 1 (by omega)
