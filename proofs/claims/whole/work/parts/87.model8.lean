/-! REFERENCE: placeAll -/
theorem dc_M_begin_0 : decode mb_M_begin 0 = .ok (.aload_n 0, 1) := by decide +kernel
theorem dc_M_begin_1 : decode mb_M_begin 1 = .ok (.iconst 0, 1) := by decide +kernel
theorem dc_M_begin_2 : decode mb_M_begin 2 = .ok (.putfield 70, 3) := by decide +kernel
theorem dc_M_begin_5 : decode mb_M_begin 5 = .ok (.return_, 1) := by decide +kernel
theorem dc_M_placeAll_0 : decode mb_M_placeAll 0 = .ok (.iconst 0, 1) := by decide +kernel
theorem dc_M_placeAll_1 : decode mb_M_placeAll 1 = .ok (.istore 4, 2) := by decide +kernel
theorem dc_M_placeAll_3 : decode mb_M_placeAll 3 = .ok (.iload 4, 2) := by decide +kernel
theorem dc_M_placeAll_5 : decode mb_M_placeAll 5 = .ok (.aload_n 0, 1) := by decide +kernel
theorem dc_M_placeAll_6 : decode mb_M_placeAll 6 = .ok (.getfield 17, 3) := by decide +kernel
theorem dc_M_placeAll_9 : decode mb_M_placeAll 9 = .ok (.iload_n 1, 1) := by decide +kernel
theorem dc_M_placeAll_10 : decode mb_M_placeAll 10 = .ok (.iaload, 1) := by decide +kernel
theorem dc_M_placeAll_11 : decode mb_M_placeAll 11 = .ok (.if_icmp .ge 41, 3) := by decide +kernel
theorem dc_M_placeAll_14 : decode mb_M_placeAll 14 = .ok (.aload_n 0, 1) := by decide +kernel
theorem dc_M_placeAll_15 : decode mb_M_placeAll 15 = .ok (.iload_n 2, 1) := by decide +kernel
theorem dc_M_placeAll_16 : decode mb_M_placeAll 16 = .ok (.iload_n 3, 1) := by decide +kernel
theorem dc_M_placeAll_17 : decode mb_M_placeAll 17 = .ok (.aload_n 0, 1) := by decide +kernel
theorem dc_M_placeAll_18 : decode mb_M_placeAll 18 = .ok (.getfield 7, 3) := by decide +kernel
theorem dc_M_placeAll_21 : decode mb_M_placeAll 21 = .ok (.sipush 1024, 3) := by decide +kernel
theorem dc_M_placeAll_24 : decode mb_M_placeAll 24 = .ok (.iload_n 1, 1) := by decide +kernel
theorem dc_M_placeAll_25 : decode mb_M_placeAll 25 = .ok (.imul, 1) := by decide +kernel
theorem dc_M_placeAll_26 : decode mb_M_placeAll 26 = .ok (.iload 4, 2) := by decide +kernel
theorem dc_M_placeAll_28 : decode mb_M_placeAll 28 = .ok (.iadd, 1) := by decide +kernel
theorem dc_M_placeAll_29 : decode mb_M_placeAll 29 = .ok (.laload, 1) := by decide +kernel
theorem dc_M_placeAll_30 : decode mb_M_placeAll 30 = .ok (.aload_n 0, 1) := by decide +kernel
theorem dc_M_placeAll_31 : decode mb_M_placeAll 31 = .ok (.getfield 13, 3) := by decide +kernel
theorem dc_M_placeAll_34 : decode mb_M_placeAll 34 = .ok (.sipush 1024, 3) := by decide +kernel
theorem dc_M_placeAll_37 : decode mb_M_placeAll 37 = .ok (.iload_n 1, 1) := by decide +kernel
theorem dc_M_placeAll_38 : decode mb_M_placeAll 38 = .ok (.imul, 1) := by decide +kernel
theorem dc_M_placeAll_39 : decode mb_M_placeAll 39 = .ok (.iload 4, 2) := by decide +kernel
theorem dc_M_placeAll_41 : decode mb_M_placeAll 41 = .ok (.iadd, 1) := by decide +kernel
theorem dc_M_placeAll_42 : decode mb_M_placeAll 42 = .ok (.iaload, 1) := by decide +kernel
theorem dc_M_placeAll_43 : decode mb_M_placeAll 43 = .ok (.invokevirtual 77, 3) := by decide +kernel
theorem dc_M_placeAll_46 : decode mb_M_placeAll 46 = .ok (.iinc 4 1, 3) := by decide +kernel
theorem dc_M_placeAll_49 : decode mb_M_placeAll 49 = .ok (.goto (-46), 3) := by decide +kernel
theorem dc_M_placeAll_52 : decode mb_M_placeAll 52 = .ok (.return_, 1) := by decide +kernel
theorem mW_self (S : YS) : sF S 24 6 (nI 0) = mW S (fun j => (gL S 28 j, gI S 29 j)) 0 := by
  refine YS_ext (fun c => ?_) (fun c => ?_) (fun c k => rfl)
  · show gL S c = gL (sL S 28 (fun j => gL S 28 j)) c
    rw [gL_sL]
    split
    · rename_i h; rw [h]
    · rfl
  · show gI S c = gI (sI (sL S 28 (fun j => gL S 28 j)) 29 (fun j => gI S 29 j)) c
    rw [gI_sI]
    split
    · rename_i h; rw [h]
    · rfl
theorem mW_25 (S : YS) (f : Nat → Int64 × Int32) (m : Nat) : gL (mW S f m) 25 = gL S 25 := by
  show gL (sL S 28 (fun j => (f j).1)) 25 = _
  rw [gL_sL, if_neg (by decide)]
theorem mW_26 (S : YS) (f : Nat → Int64 × Int32) (m : Nat) : gI (mW S f m) 26 = gI S 26 := by
  show gI (sI (sL S 28 (fun j => (f j).1)) 29 (fun j => (f j).2)) 26 = _
  rw [gI_sI, if_neg (by decide), gI_sL]
theorem mW_27 (S : YS) (f : Nat → Int64 × Int32) (m : Nat) : gI (mW S f m) 27 = gI S 27 := by
  show gI (sI (sL S 28 (fun j => (f j).1)) 29 (fun j => (f j).2)) 27 = _
  rw [gI_sI, if_neg (by decide), gI_sL]
/-- all of a list placed, one by one -/
def zpl {α : Type} (r : α → Int) (acc l : List α) : List α := l.foldl (fun acc x => zi r x acc) acc
theorem zpl_s {α : Type} (r : α → Int) (acc : List α) (f : Nat → α) (i : Nat) : zpl r acc (zs f 0 (i + 1)) = zi r (f i) (zpl r acc (zs f 0 i)) := by
  unfold zpl
  rw [zs_succ, List.foldl_append, Nat.zero_add]
  rfl
theorem zpl_nil {α : Type} (r : α → Int) (l : List α) : zpl r [] l = zt r l := rfl
theorem zpl_two {α : Type} (r : α → Int) (l m : List α) : zpl r (zpl r [] l) m = zt r (l ++ m) := by
  unfold zpl zt
  rw [List.foldl_append]
set_option maxHeartbeats 4000000 in
set_option maxRecDepth 100000 in
theorem ct_M_begin (l : Launch) (g : YG) (S : YS)  : yC l mn_M_begin mb_M_begin 1 none 0 g [.ref (g.ad (24))] S (fun v S' => v = none ∧ S' = mW S (fun j => (gL S 28 j, gI S 29 j)) 0) := by
  refine yC_of (by decide) (Nat.le_of_ble_eq_true rfl) ?_
  intro o hl hg hB0 hE
  subst hl
  subst hg
  have hB : yB o mb_M_begin "OrderBenchModel" := hB0
  have hm := hE.1
  show yW o (S) 0 [(0, .ref (o.G.ad (24)))] []
  refine y_aload_n (pc' := 1) hB dc_M_begin_0 rfl rfl 0 rfl ?_
  refine y_iconst (v := nI 0) (pc' := 2) hB dc_M_begin_1 rfl rfl ?_
  refine p_M_workSize (pc' := 5) hB dc_M_begin_2 rfl q_645 ?_
  rw [mW_self]
  exact y_vret hB hE dc_M_begin_5 ⟨rfl, rfl⟩
set_option maxHeartbeats 4000000 in
set_option maxRecDepth 100000 in
theorem ct_M_placeAll (l : Launch) (g : YG) (S : YS) (k n : Nat) (hk : k < 4) (hn : n ≤ 1024) (hc : gI S 27 k = nI n) (f : Nat → Int64 × Int32) (m : Nat) (hm2 : m + n ≤ 2048) (od : Nat) (ho : od < 8) (tg : Bool) (hs : zo (zq od tg) (zs f 0 m)) : yC l mn_M_placeAll mb_M_placeAll 5 none 4 g [.ref (g.ad (24)), .int (nI (k)), .int (nI (od)), .int (yb (!tg))] (mW S f m) (fun v S' => ∃ f', v = none ∧ S' = mW S f' (m + n) ∧ zs f' 0 (m + n) = zpl (zq od tg) (zs f 0 m) (zs (ze4 S k) 0 n)) := by
  refine yC_of (by decide) (Nat.le_of_ble_eq_true rfl) ?_
  intro o hl hg hB0 hE
  subst hl
  subst hg
  have hB : yB o mb_M_placeAll "OrderBenchModel" := hB0
  have hm := hE.1
  show yW o (mW S f m) 0 [(0, .ref (o.G.ad (24))), (1, .int (nI (k))), (2, .int (nI (od))), (3, .int (yb (!tg)))] []
  refine y_iconst (v := nI 0) (pc' := 1) hB dc_M_placeAll_0 rfl rfl ?_
  refine y_istore (pc' := 3) (lv' := [(4, .int (nI (0))), (0, .ref (o.G.ad (24))), (1, .int (nI (k))), (2, .int (nI (od))), (3, .int (yb (!tg)))]) hB hm dc_M_placeAll_1 rfl (by decide) rfl ?_
  have loop : ∀ (d : Nat) (i : Nat) (f1 : Nat → Int64 × Int32), n - i < d → i ≤ n → zs f1 0 (m + i) = zpl (zq od tg) (zs f 0 m) (zs (ze4 S k) 0 i) → yW o (mW S f1 (m + i)) 3 [(4, .int (nI (i))), (0, .ref (o.G.ad (24))), (1, .int (nI (k))), (2, .int (nI (od))), (3, .int (yb (!tg)))] [] := by
    intro d
    induction d with
    | zero => intro i f1 hd; omega
    | succ d ih =>
      intro i f1 hd h1 h2
      refine y_iload (pc' := 5) hB dc_M_placeAll_3 rfl 0 rfl ?_
      refine y_aload_n (pc' := 6) hB dc_M_placeAll_5 rfl rfl 1 rfl ?_
      refine f_M_sizes (pc' := 9) hB dc_M_placeAll_6 rfl q_642 ?_
      refine y_iload_n (pc' := 10) hB dc_M_placeAll_9 rfl rfl 2 rfl ?_
      refine y_iald (c := 27) (n := 4) (j := k) (pc' := 11) hB dc_M_placeAll_10 rfl (by decide) rfl (by omega) (by decide) ?_
      refine y_topi (y := nI (n)) (by rw [mW_27]; exact hc) ?_
      refine n_icmp_ge (pc' := 14) (tg := 52) hB dc_M_placeAll_11 rfl rfl (by omega) (by omega) (fun b1 => ?_) (fun b1 => ?_)
      · have e : i = n := by omega
        subst e
        exact y_vret hB hE dc_M_placeAll_52 ⟨f1, rfl, rfl, h2⟩
      · refine y_aload_n (pc' := 15) hB dc_M_placeAll_14 rfl rfl 1 rfl ?_
        refine y_iload_n (pc' := 16) hB dc_M_placeAll_15 rfl rfl 3 rfl ?_
        refine y_iload_n (pc' := 17) hB dc_M_placeAll_16 rfl rfl 4 rfl ?_
        refine y_aload_n (pc' := 18) hB dc_M_placeAll_17 rfl rfl 1 rfl ?_
        refine f_M_keys (pc' := 21) hB dc_M_placeAll_18 rfl q_640 ?_
        refine y_sipush (v := nI 1024) (pc' := 24) hB dc_M_placeAll_21 rfl (by decide) ?_
        refine y_iload_n (pc' := 25) hB dc_M_placeAll_24 rfl rfl 2 rfl ?_
        refine n_imul (x := 1024) (y := k) (pc' := 26) hB dc_M_placeAll_25 rfl ?_
        refine y_iload (pc' := 28) hB dc_M_placeAll_26 rfl 0 rfl ?_
        refine n_iadd (x := 1024 * k) (y := i) (pc' := 29) hB dc_M_placeAll_28 rfl ?_
        refine y_lald (c := 25) (n := 4096) (j := (1024 * k) + i) (pc' := 30) hB dc_M_placeAll_29 rfl (by decide) rfl (by omega) (by decide) ?_
        refine y_topl (y := ((ze4 S k) i).1) (by rw [mW_25]; rfl) ?_
        refine y_aload_n (pc' := 31) hB dc_M_placeAll_30 rfl rfl 1 rfl ?_
        refine f_M_tags (pc' := 34) hB dc_M_placeAll_31 rfl q_641 ?_
        refine y_sipush (v := nI 1024) (pc' := 37) hB dc_M_placeAll_34 rfl (by decide) ?_
        refine y_iload_n (pc' := 38) hB dc_M_placeAll_37 rfl rfl 2 rfl ?_
        refine n_imul (x := 1024) (y := k) (pc' := 39) hB dc_M_placeAll_38 rfl ?_
        refine y_iload (pc' := 41) hB dc_M_placeAll_39 rfl 0 rfl ?_
        refine n_iadd (x := 1024 * k) (y := i) (pc' := 42) hB dc_M_placeAll_41 rfl ?_
        refine y_iald (c := 26) (n := 4096) (j := (1024 * k) + i) (pc' := 43) hB dc_M_placeAll_42 rfl (by decide) rfl (by omega) (by decide) ?_
        refine y_topi (y := ((ze4 S k) i).2) (by rw [mW_26]; rfl) ?_
        refine y_callV (c := 24) (ci := 4) (As := [.int (nI (od)), .int (yb (!tg)), .long (((ze4 S k) i).1), .int (((ze4 S k) i).2)]) (rest := []) (pc' := 46) hB hE (ct_M_place o.l o.G S f1 (m + i) (by omega) od ho tg ((ze4 S k) i).1 ((ze4 S k) i).2 (by rw [h2]; exact (zt_fold hs).1)) mm_M_place q_732 q_734 qs_17 (by decide) rfl rfl dc_M_placeAll_43 rfl (by decide) rfl rfl (Nat.le_of_ble_eq_true rfl) (fun v S' hpost => ?_)
        obtain ⟨f2, rfl, rfl, m1⟩ := hpost
        show yW o (mW S f2 (m + i + 1)) 46 [(4, .int (nI (i))), (0, .ref (o.G.ad (24))), (1, .int (nI (k))), (2, .int (nI (od))), (3, .int (yb (!tg)))] []
        refine n_inc (q := 0) (z := 1) (pc' := 49) (lv' := [(4, .int (nI (i + 1))), (0, .ref (o.G.ad (24))), (1, .int (nI (k))), (2, .int (nI (od))), (3, .int (yb (!tg)))]) hB hm dc_M_placeAll_46 rfl rfl (by decide) rfl ?_
        refine y_goto (tg := 3) hB dc_M_placeAll_49 rfl ?_
        refine y_sub [0, 1, 2, 3, 4] rfl ?_
        exact ih (i + 1) f2 (by omega) b1 (by rw [zpl_s, ← h2]; exact m1)
  exact loop (n + 1) 0 f (by omega) (by omega) rfl
