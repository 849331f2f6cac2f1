/-! REFERENCE: give -/
theorem dc_M_give_0 : decode mb_M_give 0 = .ok (.iconst 0, 1) := by decide +kernel
theorem dc_M_give_1 : decode mb_M_give 1 = .ok (.istore_n 2, 1) := by decide +kernel
theorem dc_M_give_2 : decode mb_M_give 2 = .ok (.iload_n 2, 1) := by decide +kernel
theorem dc_M_give_3 : decode mb_M_give 3 = .ok (.aload_n 0, 1) := by decide +kernel
theorem dc_M_give_4 : decode mb_M_give 4 = .ok (.getfield 70, 3) := by decide +kernel
theorem dc_M_give_7 : decode mb_M_give 7 = .ok (.if_icmp .ge 45, 3) := by decide +kernel
theorem dc_M_give_10 : decode mb_M_give 10 = .ok (.aload_n 0, 1) := by decide +kernel
theorem dc_M_give_11 : decode mb_M_give 11 = .ok (.getfield 7, 3) := by decide +kernel
theorem dc_M_give_14 : decode mb_M_give 14 = .ok (.sipush 1024, 3) := by decide +kernel
theorem dc_M_give_17 : decode mb_M_give 17 = .ok (.iload_n 1, 1) := by decide +kernel
theorem dc_M_give_18 : decode mb_M_give 18 = .ok (.imul, 1) := by decide +kernel
theorem dc_M_give_19 : decode mb_M_give 19 = .ok (.iload_n 2, 1) := by decide +kernel
theorem dc_M_give_20 : decode mb_M_give 20 = .ok (.iadd, 1) := by decide +kernel
theorem dc_M_give_21 : decode mb_M_give 21 = .ok (.aload_n 0, 1) := by decide +kernel
theorem dc_M_give_22 : decode mb_M_give 22 = .ok (.getfield 20, 3) := by decide +kernel
theorem dc_M_give_25 : decode mb_M_give 25 = .ok (.iload_n 2, 1) := by decide +kernel
theorem dc_M_give_26 : decode mb_M_give 26 = .ok (.laload, 1) := by decide +kernel
theorem dc_M_give_27 : decode mb_M_give 27 = .ok (.lastore, 1) := by decide +kernel
theorem dc_M_give_28 : decode mb_M_give 28 = .ok (.aload_n 0, 1) := by decide +kernel
theorem dc_M_give_29 : decode mb_M_give 29 = .ok (.getfield 13, 3) := by decide +kernel
theorem dc_M_give_32 : decode mb_M_give 32 = .ok (.sipush 1024, 3) := by decide +kernel
theorem dc_M_give_35 : decode mb_M_give 35 = .ok (.iload_n 1, 1) := by decide +kernel
theorem dc_M_give_36 : decode mb_M_give 36 = .ok (.imul, 1) := by decide +kernel
theorem dc_M_give_37 : decode mb_M_give 37 = .ok (.iload_n 2, 1) := by decide +kernel
theorem dc_M_give_38 : decode mb_M_give 38 = .ok (.iadd, 1) := by decide +kernel
theorem dc_M_give_39 : decode mb_M_give 39 = .ok (.aload_n 0, 1) := by decide +kernel
theorem dc_M_give_40 : decode mb_M_give 40 = .ok (.getfield 23, 3) := by decide +kernel
theorem dc_M_give_43 : decode mb_M_give 43 = .ok (.iload_n 2, 1) := by decide +kernel
theorem dc_M_give_44 : decode mb_M_give 44 = .ok (.iaload, 1) := by decide +kernel
theorem dc_M_give_45 : decode mb_M_give 45 = .ok (.iastore, 1) := by decide +kernel
theorem dc_M_give_46 : decode mb_M_give 46 = .ok (.iinc 2 1, 3) := by decide +kernel
theorem dc_M_give_49 : decode mb_M_give 49 = .ok (.goto (-47), 3) := by decide +kernel
theorem dc_M_give_52 : decode mb_M_give 52 = .ok (.aload_n 0, 1) := by decide +kernel
theorem dc_M_give_53 : decode mb_M_give 53 = .ok (.getfield 17, 3) := by decide +kernel
theorem dc_M_give_56 : decode mb_M_give 56 = .ok (.iload_n 1, 1) := by decide +kernel
theorem dc_M_give_57 : decode mb_M_give 57 = .ok (.aload_n 0, 1) := by decide +kernel
theorem dc_M_give_58 : decode mb_M_give 58 = .ok (.getfield 70, 3) := by decide +kernel
theorem dc_M_give_61 : decode mb_M_give 61 = .ok (.iastore, 1) := by decide +kernel
theorem dc_M_give_62 : decode mb_M_give 62 = .ok (.return_, 1) := by decide +kernel
/-- keys and tags of the reference's rows -/
def mK (X : YS) (K : Nat → Int64) (T : Nat → Int32) : YS := sI (sL X 25 K) 26 T
theorem mK_K (X : YS) (K : Nat → Int64) (T : Nat → Int32) : gL (mK X K T) 25 = K := by
  show gL (sL X 25 K) 25 = K
  rw [gL_sL, if_pos rfl]
theorem mK_T (X : YS) (K : Nat → Int64) (T : Nat → Int32) : gI (mK X K T) 26 = T := gI_same _ 26 T
theorem mK_L (X : YS) (K : Nat → Int64) (T : Nat → Int32) {c : Nat} (h : c ≠ 25) : gL (mK X K T) c = gL X c := by
  show gL (sL X 25 K) c = _
  rw [gL_sL, if_neg h]
theorem mK_I (X : YS) (K : Nat → Int64) (T : Nat → Int32) {c : Nat} (h : c ≠ 26) : gI (mK X K T) c = gI X c := by
  unfold mK
  rw [gI_sI, if_neg h, gI_sL]
theorem mK_put (X : YS) (K K2 : Nat → Int64) (T T2 : Nat → Int32) : sI (sL (mK X K T) 25 K2) 26 T2 = mK X K2 T2 := by
  refine YS_ext (fun c => ?_) (fun c => ?_) (fun c k => rfl)
  · show gL (sL (sL X 25 K) 25 K2) c = gL (sL X 25 K2) c
    simp only [gL_sL]
    split <;> rfl
  · show gI (sI (sI (sL X 25 K) 26 T) 26 T2) c = gI (sI (sL X 25 K2) 26 T2) c
    simp only [gI_sI, gI_sL]
    split <;> rfl
theorem mK_self (X : YS) : mK X (gL X 25) (gI X 26) = X := by
  refine YS_ext (fun c => ?_) (fun c => ?_) (fun c k => rfl)
  · show gL (sL X 25 (gL X 25)) c = _
    rw [gL_sL]
    split
    · rename_i h; rw [h]
    · rfl
  · show gI (sI (sL X 25 (gL X 25)) 26 (gI X 26)) c = _
    rw [gI_sI]
    split
    · rename_i h; rw [h]
    · rfl
set_option maxHeartbeats 4000000 in
set_option maxRecDepth 100000 in
theorem ct_M_give (l : Launch) (g : YG) (S : YS) (k m : Nat) (hk : k < 4) (hm2 : m ≤ 1024) (f : Nat → Int64 × Int32) : yC l mn_M_give mb_M_give 3 none 1 g [.ref (g.ad (24)), .int (nI (k))] (mW S f m) (fun v S' => ∃ (K : Nat → Int64) (T : Nat → Int32), v = none ∧ S' = sI (mK (mW S f m) K T) 27 (upd (gI S 27) k (nI m)) ∧ (∀ j, j < m → K (1024 * k + j) = (f j).1 ∧ T (1024 * k + j) = (f j).2) ∧ (∀ j, j < 1024 * k ∨ 1024 * k + m ≤ j → K j = gL S 25 j ∧ T j = gI S 26 j)) := by
  refine yC_of (by decide) (Nat.le_of_ble_eq_true rfl) ?_
  intro o hl hg hB0 hE
  subst hl
  subst hg
  have hB : yB o mb_M_give "OrderBenchModel" := hB0
  have hm := hE.1
  show yW o (mW S f m) 0 [(0, .ref (o.G.ad (24))), (1, .int (nI (k)))] []
  refine y_iconst (v := nI 0) (pc' := 1) hB dc_M_give_0 rfl rfl ?_
  refine y_istore_n (pc' := 2) (lv' := [(2, .int (nI (0))), (0, .ref (o.G.ad (24))), (1, .int (nI (k)))]) hB hm dc_M_give_1 rfl rfl (by decide) rfl ?_
  have loop : ∀ (d : Nat) (i : Nat) (K : Nat → Int64) (T : Nat → Int32), m - i < d → i ≤ m → (∀ j, j < i → K (1024 * k + j) = (f j).1 ∧ T (1024 * k + j) = (f j).2) → (∀ j, j < 1024 * k ∨ 1024 * k + i ≤ j → K j = gL S 25 j ∧ T j = gI S 26 j) → yW o (mK (mW S f m) K T) 2 [(2, .int (nI (i))), (0, .ref (o.G.ad (24))), (1, .int (nI (k)))] [] := by
    intro d
    induction d with
    | zero => intro i K T hd; omega
    | succ d ih =>
      intro i K T hd h1 h2 h3
      refine y_iload_n (pc' := 3) hB dc_M_give_2 rfl rfl 0 rfl ?_
      refine y_aload_n (pc' := 4) hB dc_M_give_3 rfl rfl 1 rfl ?_
      refine f_M_workSize (pc' := 7) hB dc_M_give_4 rfl q_645 ?_
      refine y_topi (y := nI (m)) (mW_n S f m) ?_
      refine n_icmp_ge (pc' := 10) (tg := 52) hB dc_M_give_7 rfl rfl (by omega) (by omega) (fun b1 => ?_) (fun b1 => ?_)
      · have e : i = m := by omega
        subst e
        refine y_aload_n (pc' := 53) hB dc_M_give_52 rfl rfl 1 rfl ?_
        refine f_M_sizes (pc' := 56) hB dc_M_give_53 rfl q_642 ?_
        refine y_iload_n (pc' := 57) hB dc_M_give_56 rfl rfl 2 rfl ?_
        refine y_aload_n (pc' := 58) hB dc_M_give_57 rfl rfl 1 rfl ?_
        refine f_M_workSize (pc' := 61) hB dc_M_give_58 rfl q_645 ?_
        refine y_topi (y := nI (i)) (mW_n S f i) ?_
        refine y_iast (c := 27) (n := 4) (j := k) (pc' := 62) hB dc_M_give_61 rfl (by decide) rfl (by omega) (by decide) ?_
        rw [mK_I _ _ _ (by decide), mW_27]
        exact y_vret hB hE dc_M_give_62 ⟨K, T, rfl, rfl, h2, h3⟩
      · refine y_aload_n (pc' := 11) hB dc_M_give_10 rfl rfl 1 rfl ?_
        refine f_M_keys (pc' := 14) hB dc_M_give_11 rfl q_640 ?_
        refine y_sipush (v := nI 1024) (pc' := 17) hB dc_M_give_14 rfl (by decide) ?_
        refine y_iload_n (pc' := 18) hB dc_M_give_17 rfl rfl 2 rfl ?_
        refine n_imul (x := 1024) (y := k) (pc' := 19) hB dc_M_give_18 rfl ?_
        refine y_iload_n (pc' := 20) hB dc_M_give_19 rfl rfl 0 rfl ?_
        refine n_iadd (x := 1024 * k) (y := i) (pc' := 21) hB dc_M_give_20 rfl ?_
        refine y_aload_n (pc' := 22) hB dc_M_give_21 rfl rfl 1 rfl ?_
        refine f_M_workKeys (pc' := 25) hB dc_M_give_22 rfl q_643 ?_
        refine y_iload_n (pc' := 26) hB dc_M_give_25 rfl rfl 0 rfl ?_
        refine y_lald (c := 28) (n := 2048) (j := i) (pc' := 27) hB dc_M_give_26 rfl (by decide) rfl (by omega) (by decide) ?_
        refine y_topl (y := (f i).1) (by rw [mK_L _ _ _ (by decide), mW_L]) ?_
        refine y_last (c := 25) (n := 4096) (j := (1024 * k) + i) (pc' := 28) hB dc_M_give_27 rfl (by decide) rfl (by omega) (by decide) ?_
        refine y_aload_n (pc' := 29) hB dc_M_give_28 rfl rfl 1 rfl ?_
        refine f_M_tags (pc' := 32) hB dc_M_give_29 rfl q_641 ?_
        refine y_sipush (v := nI 1024) (pc' := 35) hB dc_M_give_32 rfl (by decide) ?_
        refine y_iload_n (pc' := 36) hB dc_M_give_35 rfl rfl 2 rfl ?_
        refine n_imul (x := 1024) (y := k) (pc' := 37) hB dc_M_give_36 rfl ?_
        refine y_iload_n (pc' := 38) hB dc_M_give_37 rfl rfl 0 rfl ?_
        refine n_iadd (x := 1024 * k) (y := i) (pc' := 39) hB dc_M_give_38 rfl ?_
        refine y_aload_n (pc' := 40) hB dc_M_give_39 rfl rfl 1 rfl ?_
        refine f_M_workTags (pc' := 43) hB dc_M_give_40 rfl q_644 ?_
        refine y_iload_n (pc' := 44) hB dc_M_give_43 rfl rfl 0 rfl ?_
        refine y_iald (c := 29) (n := 2048) (j := i) (pc' := 45) hB dc_M_give_44 rfl (by decide) rfl (by omega) (by decide) ?_
        refine y_topi (y := (f i).2) (by rw [gI_sL, mK_I _ _ _ (by decide), mW_I]) ?_
        refine y_iast (c := 26) (n := 4096) (j := (1024 * k) + i) (pc' := 46) hB dc_M_give_45 rfl (by decide) rfl (by omega) (by decide) ?_
        rw [gI_sL, mK_K, mK_T, mK_put]
        refine n_inc (q := 0) (z := 1) (pc' := 49) (lv' := [(2, .int (nI (i + 1))), (0, .ref (o.G.ad (24))), (1, .int (nI (k)))]) hB hm dc_M_give_46 rfl rfl (by decide) rfl ?_
        refine y_goto (tg := 2) hB dc_M_give_49 rfl ?_
        refine y_sub [0, 1, 2] rfl ?_
        refine ih (i + 1) _ _ (by omega) b1 (fun j hj => ?_) (fun j hj => ?_)
        · unfold vp_updL upd
          by_cases e : j = i
          · rw [if_pos (by omega), if_pos (by omega), e]; exact ⟨rfl, rfl⟩
          · rw [if_neg (by omega), if_neg (by omega)]; exact h2 j (by omega)
        · unfold vp_updL upd
          rw [if_neg (by omega), if_neg (by omega)]; exact h3 j (by omega)
  have h0 := loop (m + 1) 0 (gL (mW S f m) 25) (gI (mW S f m) 26) (by omega) (by omega) (fun j hj => by omega) (fun j _ => by rw [mW_25, mW_26]; exact ⟨rfl, rfl⟩)
  rw [mK_self] at h0
  exact h0
