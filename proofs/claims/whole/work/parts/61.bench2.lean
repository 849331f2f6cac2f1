/-! BENCH: what can be seen; checks that pass -/
theorem dc_B_rowAt_0 : decode mb_B_rowAt 0 = .ok (.iload_n 1, 1) := by decide +kernel
theorem dc_B_rowAt_1 : decode mb_B_rowAt 1 = .ok (.ifCond .lt 8, 3) := by decide +kernel
theorem dc_B_rowAt_4 : decode mb_B_rowAt 4 = .ok (.iload_n 1, 1) := by decide +kernel
theorem dc_B_rowAt_5 : decode mb_B_rowAt 5 = .ok (.iconst 4, 1) := by decide +kernel
theorem dc_B_rowAt_6 : decode mb_B_rowAt 6 = .ok (.if_icmp .lt 13, 3) := by decide +kernel
theorem dc_B_rowAt_9 : decode mb_B_rowAt 9 = .ok (.new 213, 3) := by decide +kernel
theorem dc_B_rowAt_12 : decode mb_B_rowAt 12 = .ok (.dup, 1) := by decide +kernel
theorem dc_B_rowAt_13 : decode mb_B_rowAt 13 = .ok (.ldc 215, 2) := by decide +kernel
theorem dc_B_rowAt_15 : decode mb_B_rowAt 15 = .ok (.invokespecial 217, 3) := by decide +kernel
theorem dc_B_rowAt_18 : decode mb_B_rowAt 18 = .ok (.athrow, 1) := by decide +kernel
theorem dc_B_rowAt_19 : decode mb_B_rowAt 19 = .ok (.aload_n 0, 1) := by decide +kernel
theorem dc_B_rowAt_20 : decode mb_B_rowAt 20 = .ok (.getfield 11, 3) := by decide +kernel
theorem dc_B_rowAt_23 : decode mb_B_rowAt 23 = .ok (.iload_n 1, 1) := by decide +kernel
theorem dc_B_rowAt_24 : decode mb_B_rowAt 24 = .ok (.aaload, 1) := by decide +kernel
theorem dc_B_rowAt_25 : decode mb_B_rowAt 25 = .ok (.areturn, 1) := by decide +kernel
theorem dc_B_checkEntry_0 : decode mb_B_checkEntry 0 = .ok (.iload_n 1, 1) := by decide +kernel
theorem dc_B_checkEntry_1 : decode mb_B_checkEntry 1 = .ok (.ifCond .lt 11, 3) := by decide +kernel
theorem dc_B_checkEntry_4 : decode mb_B_checkEntry 4 = .ok (.iload_n 1, 1) := by decide +kernel
theorem dc_B_checkEntry_5 : decode mb_B_checkEntry 5 = .ok (.aload_n 0, 1) := by decide +kernel
theorem dc_B_checkEntry_6 : decode mb_B_checkEntry 6 = .ok (.getfield 53, 3) := by decide +kernel
theorem dc_B_checkEntry_9 : decode mb_B_checkEntry 9 = .ok (.if_icmp .lt 13, 3) := by decide +kernel
theorem dc_B_checkEntry_12 : decode mb_B_checkEntry 12 = .ok (.new 213, 3) := by decide +kernel
theorem dc_B_checkEntry_15 : decode mb_B_checkEntry 15 = .ok (.dup, 1) := by decide +kernel
theorem dc_B_checkEntry_16 : decode mb_B_checkEntry 16 = .ok (.ldc 218, 2) := by decide +kernel
theorem dc_B_checkEntry_18 : decode mb_B_checkEntry 18 = .ok (.invokespecial 217, 3) := by decide +kernel
theorem dc_B_checkEntry_21 : decode mb_B_checkEntry 21 = .ok (.athrow, 1) := by decide +kernel
theorem dc_B_checkEntry_22 : decode mb_B_checkEntry 22 = .ok (.return_, 1) := by decide +kernel
theorem dc_B_checkOrder_0 : decode mb_B_checkOrder 0 = .ok (.iload_n 0, 1) := by decide +kernel
theorem dc_B_checkOrder_1 : decode mb_B_checkOrder 1 = .ok (.ifCond .lt 9, 3) := by decide +kernel
theorem dc_B_checkOrder_4 : decode mb_B_checkOrder 4 = .ok (.iload_n 0, 1) := by decide +kernel
theorem dc_B_checkOrder_5 : decode mb_B_checkOrder 5 = .ok (.bipush 7, 2) := by decide +kernel
theorem dc_B_checkOrder_7 : decode mb_B_checkOrder 7 = .ok (.if_icmp .le 13, 3) := by decide +kernel
theorem dc_B_checkOrder_10 : decode mb_B_checkOrder 10 = .ok (.new 68, 3) := by decide +kernel
theorem dc_B_checkOrder_13 : decode mb_B_checkOrder 13 = .ok (.dup, 1) := by decide +kernel
theorem dc_B_checkOrder_14 : decode mb_B_checkOrder 14 = .ok (.ldc 220, 2) := by decide +kernel
theorem dc_B_checkOrder_16 : decode mb_B_checkOrder 16 = .ok (.invokespecial 72, 3) := by decide +kernel
theorem dc_B_checkOrder_19 : decode mb_B_checkOrder 19 = .ok (.athrow, 1) := by decide +kernel
theorem dc_B_checkOrder_20 : decode mb_B_checkOrder 20 = .ok (.return_, 1) := by decide +kernel
theorem dc_B_checkWay_0 : decode mb_B_checkWay 0 = .ok (.iload_n 0, 1) := by decide +kernel
theorem dc_B_checkWay_1 : decode mb_B_checkWay 1 = .ok (.ifCond .lt 9, 3) := by decide +kernel
theorem dc_B_checkWay_4 : decode mb_B_checkWay 4 = .ok (.iload_n 0, 1) := by decide +kernel
theorem dc_B_checkWay_5 : decode mb_B_checkWay 5 = .ok (.bipush 6, 2) := by decide +kernel
theorem dc_B_checkWay_7 : decode mb_B_checkWay 7 = .ok (.if_icmp .le 13, 3) := by decide +kernel
theorem dc_B_checkWay_10 : decode mb_B_checkWay 10 = .ok (.new 68, 3) := by decide +kernel
theorem dc_B_checkWay_13 : decode mb_B_checkWay 13 = .ok (.dup, 1) := by decide +kernel
theorem dc_B_checkWay_14 : decode mb_B_checkWay 14 = .ok (.ldc 222, 2) := by decide +kernel
theorem dc_B_checkWay_16 : decode mb_B_checkWay 16 = .ok (.invokespecial 72, 3) := by decide +kernel
theorem dc_B_checkWay_19 : decode mb_B_checkWay 19 = .ok (.athrow, 1) := by decide +kernel
theorem dc_B_checkWay_20 : decode mb_B_checkWay 20 = .ok (.iload_n 0, 1) := by decide +kernel
theorem dc_B_checkWay_21 : decode mb_B_checkWay 21 = .ok (.bipush 6, 2) := by decide +kernel
theorem dc_B_checkWay_23 : decode mb_B_checkWay 23 = .ok (.if_icmp .ne 20, 3) := by decide +kernel
theorem dc_B_checkWay_26 : decode mb_B_checkWay 26 = .ok (.iload_n 1, 1) := by decide +kernel
theorem dc_B_checkWay_27 : decode mb_B_checkWay 27 = .ok (.invokestatic 224, 3) := by decide +kernel
theorem dc_B_checkWay_30 : decode mb_B_checkWay 30 = .ok (.ifCond .ne 13, 3) := by decide +kernel
theorem dc_B_checkWay_33 : decode mb_B_checkWay 33 = .ok (.new 68, 3) := by decide +kernel
theorem dc_B_checkWay_36 : decode mb_B_checkWay 36 = .ok (.dup, 1) := by decide +kernel
theorem dc_B_checkWay_37 : decode mb_B_checkWay 37 = .ok (.ldc 227, 2) := by decide +kernel
theorem dc_B_checkWay_39 : decode mb_B_checkWay 39 = .ok (.invokespecial 72, 3) := by decide +kernel
theorem dc_B_checkWay_42 : decode mb_B_checkWay 42 = .ok (.athrow, 1) := by decide +kernel
theorem dc_B_checkWay_43 : decode mb_B_checkWay 43 = .ok (.return_, 1) := by decide +kernel
theorem dc_B_judgeBy_0 : decode mb_B_judgeBy 0 = .ok (.iload_n 1, 1) := by decide +kernel
theorem dc_B_judgeBy_1 : decode mb_B_judgeBy 1 = .ok (.invokestatic 106, 3) := by decide +kernel
theorem dc_B_judgeBy_4 : decode mb_B_judgeBy 4 = .ok (.aload_n 0, 1) := by decide +kernel
theorem dc_B_judgeBy_5 : decode mb_B_judgeBy 5 = .ok (.getfield 26, 3) := by decide +kernel
theorem dc_B_judgeBy_8 : decode mb_B_judgeBy 8 = .ok (.iload_n 1, 1) := by decide +kernel
theorem dc_B_judgeBy_9 : decode mb_B_judgeBy 9 = .ok (.iconst 0, 1) := by decide +kernel
theorem dc_B_judgeBy_10 : decode mb_B_judgeBy 10 = .ok (.invokevirtual 117, 3) := by decide +kernel
theorem dc_B_judgeBy_13 : decode mb_B_judgeBy 13 = .ok (.return_, 1) := by decide +kernel
theorem dc_B_checkInOrder_0 : decode mb_B_checkInOrder 0 = .ok (.aload_n 0, 1) := by decide +kernel
theorem dc_B_checkInOrder_1 : decode mb_B_checkInOrder 1 = .ok (.aload_n 1, 1) := by decide +kernel
theorem dc_B_checkInOrder_2 : decode mb_B_checkInOrder 2 = .ok (.invokevirtual 162, 3) := by decide +kernel
theorem dc_B_checkInOrder_5 : decode mb_B_checkInOrder 5 = .ok (.ifCond .ne 13, 3) := by decide +kernel
theorem dc_B_checkInOrder_8 : decode mb_B_checkInOrder 8 = .ok (.new 57, 3) := by decide +kernel
theorem dc_B_checkInOrder_11 : decode mb_B_checkInOrder 11 = .ok (.dup, 1) := by decide +kernel
theorem dc_B_checkInOrder_12 : decode mb_B_checkInOrder 12 = .ok (.ldc 229, 2) := by decide +kernel
theorem dc_B_checkInOrder_14 : decode mb_B_checkInOrder 14 = .ok (.invokespecial 61, 3) := by decide +kernel
theorem dc_B_checkInOrder_17 : decode mb_B_checkInOrder 17 = .ok (.athrow, 1) := by decide +kernel
theorem dc_B_checkInOrder_18 : decode mb_B_checkInOrder 18 = .ok (.return_, 1) := by decide +kernel
/-- T shows what S shows: the four rows, their counts, the kept limit, the pile's first border, and all from cell 24 on -/
def yU (S T : YS) : Prop := (∀ q, q < 4 → ye T q = ye S q ∧ gF T (2 + q) 2 = gF S (2 + q) 2) ∧ gI T 22 0 = gI S 22 0 ∧ gF T 0 6 = gF S 0 6 ∧ (∀ c, 24 ≤ c → gL T c = gL S c ∧ gI T c = gI S c ∧ ∀ k, gF T c k = gF S c k)
theorem yU.rf (S : YS) : yU S S := ⟨fun _ _ => ⟨rfl, rfl⟩, rfl, rfl, fun _ _ => ⟨rfl, rfl, fun _ => rfl⟩⟩
theorem yU.tr {S T U : YS} (h : yU S T) (k : yU T U) : yU S U :=
  ⟨fun q hq => ⟨(k.1 q hq).1.trans (h.1 q hq).1, (k.1 q hq).2.trans (h.1 q hq).2⟩, k.2.1.trans h.2.1, k.2.2.1.trans h.2.2.1, fun c hc => ⟨(k.2.2.2 c hc).1.trans (h.2.2.2 c hc).1, (k.2.2.2 c hc).2.1.trans (h.2.2.2 c hc).2.1, fun j => ((k.2.2.2 c hc).2.2 j).trans ((h.2.2.2 c hc).2.2 j)⟩⟩
theorem yU_sF (S : YS) {c : Nat} (h : c = 20 ∨ c = 21) (k : Nat) (v : Int32) : yU S (sF S c k v) := by
  refine ⟨fun q hq => ⟨rfl, ?_⟩, rfl, ?_, fun c' hc => ⟨rfl, rfl, fun j => ?_⟩⟩
  · rw [gF_sF, if_neg (by omega)]
  · rw [gF_sF, if_neg (by omega)]
  · rw [gF_sF, if_neg (by omega)]
theorem yU_cnt (S : YS) {q : Nat} (h : q = 4 ∨ q = 5) (v : Int32) : yU S (sF S (2 + q) 2 v) := by
  refine ⟨fun q hq => ⟨rfl, ?_⟩, rfl, ?_, fun c' hc => ⟨rfl, rfl, fun j => ?_⟩⟩
  · rw [gF_sF, if_neg (by omega)]
  · rw [gF_sF, if_neg (by omega)]
  · rw [gF_sF, if_neg (by omega)]
theorem yU_yq (S : YS) (c : Nat) : yU S (yq S c) := yU_sF S (Or.inl rfl) 2 _
theorem yU_yz (S : YS) {q : Nat} (h : q = 4 ∨ q = 5) (g : Nat → Int64 × Int32) : yU S (yz S q g) := by
  refine ⟨fun p hp => ⟨ye_yz_ne S g (by omega), rfl⟩, ?_, rfl, fun c hc => ⟨?_, ?_, fun _ => rfl⟩⟩
  · rw [gI_yz S (by omega)]
  · unfold yz; rw [gL_sI, gL_sL, if_neg (by omega)]
  · rw [gI_yz S (by omega)]
theorem yU_s23 (S : YS) (f : Nat → Int32) : yU S (sI S 23 f) := by
  refine ⟨fun p hp => ⟨ye_sI S (by omega) f, rfl⟩, ?_, rfl, fun c hc => ⟨rfl, ?_, fun _ => rfl⟩⟩
  · rw [gI_sI, if_neg (by decide)]
  · rw [gI_sI, if_neg (by omega)]
theorem yU_s22 (S : YS) {f : Nat → Int32} (h : f 0 = gI S 22 0) : yU S (sI S 22 f) := by
  refine ⟨fun p hp => ⟨ye_sI S (by omega) f, rfl⟩, ?_, rfl, fun c hc => ⟨rfl, ?_, fun _ => rfl⟩⟩
  · rw [gI_sI, if_pos rfl]; exact h
  · rw [gI_sI, if_neg (by omega)]
theorem yU.z {S T : YS} (h : yU S T) {r : Nat} (hr : r < 4) (f : Nat → Int64 × Int32) : yU (yz S r f) (yz T r f) := by
  refine ⟨fun p hp => ⟨?_, (h.1 p hp).2⟩, ?_, h.2.2.1, fun c hc => ⟨?_, ?_, (h.2.2.2 c hc).2.2⟩⟩
  · by_cases e : p = r
    · subst e; rw [ye_yz, ye_yz]
    · rw [ye_yz_ne _ _ e, ye_yz_ne _ _ e]; exact (h.1 p hp).1
  · rw [gI_yz _ (by omega), gI_yz _ (by omega)]; exact h.2.1
  · unfold yz; rw [gL_sI, gL_sI, gL_sL, gL_sL, if_neg (by omega), if_neg (by omega)]; exact (h.2.2.2 c hc).1
  · rw [gI_yz _ (by omega), gI_yz _ (by omega)]; exact (h.2.2.2 c hc).2.1
theorem yU.F {S T : YS} (h : yU S T) (c k : Nat) (v : Int32) : yU (sF S c k v) (sF T c k v) := by
  refine ⟨fun p hp => ⟨(h.1 p hp).1, ?_⟩, h.2.1, ?_, fun c' hc => ⟨(h.2.2.2 c' hc).1, (h.2.2.2 c' hc).2.1, fun j => ?_⟩⟩
  · rw [gF_sF, gF_sF]; split
    · rfl
    · exact (h.1 p hp).2
  · rw [gF_sF, gF_sF]; split
    · rfl
    · exact h.2.2.1
  · rw [gF_sF, gF_sF]; split
    · rfl
    · exact (h.2.2.2 c' hc).2.2 j
/-- the judge begun -/
def yj (S : YS) (od : Nat) (tg : Bool) : YS := sF (sF (sF S 20 0 (nI od)) 20 1 (yb tg)) 20 2 (nI 0)
theorem yU_yj (S : YS) (od : Nat) (tg : Bool) : yU S (yj S od tg) := ((yU_sF S (Or.inl rfl) 0 _).tr (yU_sF _ (Or.inl rfl) 1 _)).tr (yU_sF _ (Or.inl rfl) 2 _)
theorem yj_J (S : YS) {od : Nat} (tg : Bool) (h : od < 8) : yJ (yj S od tg) od tg 0 := yJ_begin S od tg h
theorem yj_n (S : YS) (od : Nat) (tg : Bool) {q : Nat} (h : q < 6) : gF (yj S od tg) (2 + q) 2 = gF S (2 + q) 2 := by
  unfold yj
  rw [gF_sF, if_neg (by omega), gF_sF, if_neg (by omega), gF_sF, if_neg (by omega)]
theorem yj_ye (S : YS) (od : Nat) (tg : Bool) (q : Nat) : ye (yj S od tg) q = ye S q := rfl
theorem yj_22 (S : YS) (od : Nat) (tg : Bool) : gI (yj S od tg) 22 = gI S 22 := rfl
/-- costs -/
theorem zcost0 : ∀ n, 2 * zsm (fun i => i) 0 n = n * (n - 1)
  | 0 => rfl
  | n + 1 => by
    show 2 * (zsm (fun i => i) 0 n + (0 + n)) = _
    rw [Nat.mul_add, zcost0 n, Nat.add_sub_cancel, Nat.zero_add]
    cases n with
    | zero => rfl
    | succ n => rw [Nat.add_sub_cancel, Nat.mul_comm (n + 1) n, ← Nat.add_mul]
theorem zcost0' (n : Nat) : zsm (fun i => i) 0 n ≤ n * (n - 1) / 2 := by rw [← zcost0 n]; omega
theorem zcost1 (n l : Nat) : 2 * l * (n / 2 + n) ≤ 8 * n * (l + 2) := by
  have e1 : 2 * l * (n / 2 + n) = l * (2 * (n / 2 + n)) := by rw [Nat.mul_comm 2 l, Nat.mul_assoc]
  have e2 : l * (2 * (n / 2 + n)) ≤ l * (8 * n) := Nat.mul_le_mul_left _ (by omega)
  have e3 : l * (8 * n) = 8 * n * l := Nat.mul_comm _ _
  have e4 : 8 * n * (l + 2) = 8 * n * l + 8 * n * 2 := Nat.mul_add _ _ _
  rw [e1, e4]
  omega
theorem zcost2 (n l : Nat) : n * (2 * (2 * l) + 3 * l + 4) ≤ 8 * n * (l + 2) := by
  have e1 : 8 * n * (l + 2) = n * (8 * (l + 2)) := by rw [Nat.mul_comm 8 n, Nat.mul_assoc]
  rw [e1]
  exact Nat.mul_le_mul_left _ (by omega)
theorem zcost4 (n l : Nat) : n * l ≤ 8 * n * (l + 2) := by
  have e1 : 8 * n * (l + 2) = n * (8 * (l + 2)) := by rw [Nat.mul_comm 8 n, Nat.mul_assoc]
  rw [e1]
  exact Nat.mul_le_mul_left _ (by omega)
theorem zcost5k : ∀ k, k < 65 → ∀ s, s < 16 → 16 * k ≥ s → 7 * (16 * k - s) + zps (16 * k - s) k ≤ 8 * (16 * k - s) * (zdb (16 * k - s) + 2) := by decide +kernel
theorem zcost5 {n : Nat} (hn : n ≤ 1024) : 7 * n + zps n ((n + 15) / 16) ≤ 8 * n * (zdb n + 2) := by
  have h := zcost5k ((n + 15) / 16) (by omega) (16 * ((n + 15) / 16) - n) (by omega) (by omega)
  rwa [show 16 * ((n + 15) / 16) - (16 * ((n + 15) / 16) - n) = n by omega] at h
set_option maxHeartbeats 4000000 in
set_option maxRecDepth 100000 in
theorem ct_B_rowAt (l : Launch) (g : YG) (S : YS) (k : Nat) (hk : k < 4) : yC l mn_B_rowAt mb_B_rowAt 2 (some (.object "OrderBench$Row")) 0 g [.ref (g.ad (0)), .int (nI (k))] S (fun v S' => v = some (.ref (g.ad (2 + k))) ∧ S' = S) := by
  refine yC_of (by decide) (Nat.le_of_ble_eq_true rfl) ?_
  intro o hl hg hB0 hE
  subst hl
  subst hg
  have hB : yB o mb_B_rowAt "OrderBench" := hB0
  have hm := hE.1
  show yW o (S) 0 [(0, .ref (o.G.ad (0))), (1, .int (nI (k)))] []
  refine y_iload_n (pc' := 1) hB dc_B_rowAt_0 rfl rfl 1 rfl ?_
  refine n_if_lt (pc' := 4) (tg := 9) hB dc_B_rowAt_1 rfl rfl (by omega) ?_
  refine y_iload_n (pc' := 5) hB dc_B_rowAt_4 rfl rfl 1 rfl ?_
  refine y_iconst (v := nI 4) (pc' := 6) hB dc_B_rowAt_5 rfl rfl ?_
  refine n_icmp_lt (pc' := 9) (tg := 19) hB dc_B_rowAt_6 rfl rfl (by omega) (by omega) (fun b2 => ?_) (fun b2 => ?_)
  · refine y_aload_n (pc' := 20) hB dc_B_rowAt_19 rfl rfl 0 rfl ?_
    refine f_B_rows (pc' := 23) hB dc_B_rowAt_20 rfl q_102 ?_
    refine y_iload_n (pc' := 24) hB dc_B_rowAt_23 rfl rfl 1 rfl ?_
    refine y_aald (j := k) (pc' := 25) hB dc_B_rowAt_24 rfl (by omega) ?_
    exact y_aret hB hE dc_B_rowAt_25 ⟨rfl, rfl⟩
  · omega
set_option maxHeartbeats 4000000 in
set_option maxRecDepth 100000 in
theorem ct_B_checkEntry (l : Launch) (g : YG) (S : YS) (r : Nat) (hr : r < 6) (n : Nat) (hn : n ≤ 1024) (hc : gF S (2 + r) 2 = nI n) (i : Nat) (hi : i < n) : yC l mn_B_checkEntry mb_B_checkEntry 2 none 0 g [.ref (g.ad (2 + r)), .int (nI (i))] S (fun v S' => v = none ∧ S' = S) := by
  refine yC_of (by decide) (Nat.le_of_ble_eq_true rfl) ?_
  intro o hl hg hB0 hE
  subst hl
  subst hg
  have hB : yB o mb_B_checkEntry "OrderBench" := hB0
  have hm := hE.1
  show yW o (S) 0 [(0, .ref (o.G.ad (2 + r))), (1, .int (nI (i)))] []
  refine y_iload_n (pc' := 1) hB dc_B_checkEntry_0 rfl rfl 1 rfl ?_
  refine n_if_lt (pc' := 4) (tg := 12) hB dc_B_checkEntry_1 rfl rfl (by omega) ?_
  refine y_iload_n (pc' := 5) hB dc_B_checkEntry_4 rfl rfl 1 rfl ?_
  refine y_aload_n (pc' := 6) hB dc_B_checkEntry_5 rfl rfl 0 rfl ?_
  refine f_count (r := r) (pc' := 9) hB dc_B_checkEntry_6 rfl (by omega) q_53 ?_
  refine y_topi (y := nI (n)) hc ?_
  refine n_icmp_lt (pc' := 12) (tg := 22) hB dc_B_checkEntry_9 rfl rfl (by omega) (by omega) (fun b2 => ?_) (fun b2 => ?_)
  · exact y_vret hB hE dc_B_checkEntry_22 ⟨rfl, rfl⟩
  · omega
set_option maxHeartbeats 4000000 in
set_option maxRecDepth 100000 in
theorem ct_B_checkOrder (l : Launch) (g : YG) (S : YS) (od : Nat) (ho : od < 8) : yC l mn_B_checkOrder mb_B_checkOrder 1 none 0 g [.int (nI (od))] S (fun v S' => v = none ∧ S' = S) := by
  refine yC_of (by decide) (Nat.le_of_ble_eq_true rfl) ?_
  intro o hl hg hB0 hE
  subst hl
  subst hg
  have hB : yB o mb_B_checkOrder "OrderBench" := hB0
  have hm := hE.1
  show yW o (S) 0 [(0, .int (nI (od)))] []
  refine y_iload_n (pc' := 1) hB dc_B_checkOrder_0 rfl rfl 0 rfl ?_
  refine n_if_lt (pc' := 4) (tg := 10) hB dc_B_checkOrder_1 rfl rfl (by omega) ?_
  refine y_iload_n (pc' := 5) hB dc_B_checkOrder_4 rfl rfl 0 rfl ?_
  refine y_bipush (v := nI 7) (pc' := 7) hB dc_B_checkOrder_5 rfl (by decide) ?_
  refine n_icmp_le (pc' := 10) (tg := 20) hB dc_B_checkOrder_7 rfl rfl (by omega) (by omega) (fun b2 => ?_) (fun b2 => ?_)
  · exact y_vret hB hE dc_B_checkOrder_20 ⟨rfl, rfl⟩
  · omega
set_option maxHeartbeats 4000000 in
set_option maxRecDepth 100000 in
theorem ct_B_checkWay (l : Launch) (g : YG) (S : YS) (wy od : Nat) (hw : wy < 7) (ho : od < 8) (h6 : wy = 6 → od = 0 ∨ od = 1 ∨ od = 2 ∨ od = 5) : yC l mn_B_checkWay mb_B_checkWay 2 none 1 g [.int (nI (wy)), .int (nI (od))] S (fun v S' => v = none ∧ S' = S) := by
  refine yC_of (by decide) (Nat.le_of_ble_eq_true rfl) ?_
  intro o hl hg hB0 hE
  subst hl
  subst hg
  have hB : yB o mb_B_checkWay "OrderBench" := hB0
  have hm := hE.1
  show yW o (S) 0 [(0, .int (nI (wy))), (1, .int (nI (od)))] []
  refine y_iload_n (pc' := 1) hB dc_B_checkWay_0 rfl rfl 0 rfl ?_
  refine n_if_lt (pc' := 4) (tg := 10) hB dc_B_checkWay_1 rfl rfl (by omega) ?_
  refine y_iload_n (pc' := 5) hB dc_B_checkWay_4 rfl rfl 0 rfl ?_
  refine y_bipush (v := nI 6) (pc' := 7) hB dc_B_checkWay_5 rfl (by decide) ?_
  refine n_icmp_le (pc' := 10) (tg := 20) hB dc_B_checkWay_7 rfl rfl (by omega) (by omega) (fun b2 => ?_) (fun b2 => ?_)
  · refine y_iload_n (pc' := 21) hB dc_B_checkWay_20 rfl rfl 0 rfl ?_
    refine y_bipush (v := nI 6) (pc' := 23) hB dc_B_checkWay_21 rfl (by decide) ?_
    refine n_icmp_ne (pc' := 26) (tg := 43) hB dc_B_checkWay_23 rfl rfl (by omega) (by omega) (fun b3 => ?_) (fun b3 => ?_)
    · exact y_vret hB hE dc_B_checkWay_43 ⟨rfl, rfl⟩
    · refine y_iload_n (pc' := 27) hB dc_B_checkWay_26 rfl rfl 1 rfl ?_
      refine y_callS (As := [.int (nI (od))]) (rest := []) (pc' := 30) hB hE (ct_C_serves o.l o.G S od ho) mm_C_serves q_357 q_358 dc_B_checkWay_27 rfl (by decide) rfl rfl (Nat.le_of_ble_eq_true rfl) (fun v S' hpost => ?_)
      obtain ⟨rfl, hSS⟩ := hpost
      rw [hSS]
      clear hSS S'
      show yW o (S) 30 [(0, .int (nI (wy))), (1, .int (nI (od)))] [.int (yb (decide (od = 0 ∨ od = 1 ∨ od = 2 ∨ od = 5)))]
      rw [decide_eq_true (h6 b3)]
      refine y_if_ne (x := yb true) (pc' := 33) (tg := 43) hB dc_B_checkWay_30 rfl rfl (fun b4 => ?_) (fun b4 => ?_)
      · exact y_vret hB hE dc_B_checkWay_43 ⟨rfl, rfl⟩
      · exact absurd b4 (by decide)
  · omega
set_option maxHeartbeats 4000000 in
set_option maxRecDepth 100000 in
theorem ct_B_judgeBy (l : Launch) (g : YG) (S : YS) (od : Nat) (ho : od < 8) : yC l mn_B_judgeBy mb_B_judgeBy 2 none 1 g [.ref (g.ad (0)), .int (nI (od))] S (fun v S' => v = none ∧ S' = yj S od false) := by
  refine yC_of (by decide) (Nat.le_of_ble_eq_true rfl) ?_
  intro o hl hg hB0 hE
  subst hl
  subst hg
  have hB : yB o mb_B_judgeBy "OrderBench" := hB0
  have hm := hE.1
  show yW o (S) 0 [(0, .ref (o.G.ad (0))), (1, .int (nI (od)))] []
  refine y_iload_n (pc' := 1) hB dc_B_judgeBy_0 rfl rfl 1 rfl ?_
  refine y_callS (As := [.int (nI (od))]) (rest := []) (pc' := 4) hB hE (ct_B_checkOrder o.l o.G S od ho) mm_B_checkOrder q_349 q_350 dc_B_judgeBy_1 rfl (by decide) rfl rfl (Nat.le_of_ble_eq_true rfl) (fun v S' hpost => ?_)
  obtain ⟨rfl, hSS⟩ := hpost
  rw [hSS]
  clear hSS S'
  show yW o (S) 4 [(0, .ref (o.G.ad (0))), (1, .int (nI (od)))] []
  refine y_aload_n (pc' := 5) hB dc_B_judgeBy_4 rfl rfl 0 rfl ?_
  refine f_B_judge (pc' := 8) hB dc_B_judgeBy_5 rfl q_105 ?_
  refine y_iload_n (pc' := 9) hB dc_B_judgeBy_8 rfl rfl 1 rfl ?_
  refine y_iconst (v := nI 0) (pc' := 10) hB dc_B_judgeBy_9 rfl rfl ?_
  refine y_callV (c := 20) (ci := 2) (As := [.int (nI (od)), .int (yb false)]) (rest := []) (pc' := 13) hB hE (ct_J_begin o.l o.G S od false) mm_J_begin q_364 q_365 q_366 (by decide) rfl rfl dc_B_judgeBy_10 rfl (by decide) rfl rfl (Nat.le_of_ble_eq_true rfl) (fun v S' hpost => ?_)
  obtain ⟨rfl, hSS⟩ := hpost
  rw [hSS]
  clear hSS S'
  show yW o (yj S od false) 13 [(0, .ref (o.G.ad (0))), (1, .int (nI (od)))] []
  exact y_vret hB hE dc_B_judgeBy_13 ⟨rfl, rfl⟩
set_option maxHeartbeats 4000000 in
set_option maxRecDepth 100000 in
theorem ct_B_checkInOrder (l : Launch) (g : YG) (S : YS) (od : Nat) (tg : Bool) (c : Nat) (hJ : yJ S od tg c) (r : Nat) (hr : r < 6) (n : Nat) (hn : n ≤ 1024) (hc : gF S (2 + r) 2 = nI n) (ho : zo (zq od tg) (zs (ye S r) 0 n)) : yC l mn_B_checkInOrder mb_B_checkInOrder 2 none 5 g [.ref (g.ad (0)), .ref (g.ad (2 + r))] S (fun v S' => ∃ c', v = none ∧ S' = yq S c') := by
  refine yC_of (by decide) (Nat.le_of_ble_eq_true rfl) ?_
  intro o hl hg hB0 hE
  subst hl
  subst hg
  have hB : yB o mb_B_checkInOrder "OrderBench" := hB0
  have hm := hE.1
  show yW o (S) 0 [(0, .ref (o.G.ad (0))), (1, .ref (o.G.ad (2 + r)))] []
  refine y_aload_n (pc' := 1) hB dc_B_checkInOrder_0 rfl rfl 0 rfl ?_
  refine y_aload_n (pc' := 2) hB dc_B_checkInOrder_1 rfl rfl 1 rfl ?_
  refine y_callV (c := 0) (ci := 0) (As := [.ref (o.G.ad (2 + r))]) (rest := []) (pc' := 5) hB hE (ct_B_isInOrder o.l o.G S od tg c hJ r hr n hn hc) mm_B_isInOrder q_544 q_546 qs_9 (by decide) rfl rfl dc_B_checkInOrder_2 rfl (by decide) rfl rfl (Nat.le_of_ble_eq_true rfl) (fun v S' hpost => ?_)
  obtain ⟨bo, c1, rfl, rfl, m1⟩ := hpost
  rw [m1.mpr ho]
  show yW o (yq S c1) 5 [(0, .ref (o.G.ad (0))), (1, .ref (o.G.ad (2 + r)))] [.int (yb true)]
  refine y_if_ne (x := yb true) (pc' := 8) (tg := 18) hB dc_B_checkInOrder_5 rfl rfl (fun b1 => ?_) (fun b1 => ?_)
  · exact y_vret hB hE dc_B_checkInOrder_18 ⟨c1, rfl, rfl⟩
  · exact absurd b1 (by decide)
