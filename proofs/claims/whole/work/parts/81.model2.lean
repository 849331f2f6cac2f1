/-! REFERENCE: checks and plain calls -/
theorem dc_M_noRow_0 : decode mb_M_noRow 0 = .ok (.aload_n 0, 1) := by decide +kernel
theorem dc_M_noRow_1 : decode mb_M_noRow 1 = .ok (.iload_n 1, 1) := by decide +kernel
theorem dc_M_noRow_2 : decode mb_M_noRow 2 = .ok (.ifCond .lt 8, 3) := by decide +kernel
theorem dc_M_noRow_5 : decode mb_M_noRow 5 = .ok (.iload_n 1, 1) := by decide +kernel
theorem dc_M_noRow_6 : decode mb_M_noRow 6 = .ok (.iconst 3, 1) := by decide +kernel
theorem dc_M_noRow_7 : decode mb_M_noRow 7 = .ok (.if_icmp .le 7, 3) := by decide +kernel
theorem dc_M_noRow_10 : decode mb_M_noRow 10 = .ok (.iconst 1, 1) := by decide +kernel
theorem dc_M_noRow_11 : decode mb_M_noRow 11 = .ok (.goto 4, 3) := by decide +kernel
theorem dc_M_noRow_14 : decode mb_M_noRow 14 = .ok (.iconst 0, 1) := by decide +kernel
theorem dc_M_noRow_15 : decode mb_M_noRow 15 = .ok (.putfield 29, 3) := by decide +kernel
theorem dc_M_noRow_18 : decode mb_M_noRow 18 = .ok (.aload_n 0, 1) := by decide +kernel
theorem dc_M_noRow_19 : decode mb_M_noRow 19 = .ok (.getfield 29, 3) := by decide +kernel
theorem dc_M_noRow_22 : decode mb_M_noRow 22 = .ok (.ifCond .le 7, 3) := by decide +kernel
theorem dc_M_noRow_25 : decode mb_M_noRow 25 = .ok (.iconst 1, 1) := by decide +kernel
theorem dc_M_noRow_26 : decode mb_M_noRow 26 = .ok (.goto 4, 3) := by decide +kernel
theorem dc_M_noRow_29 : decode mb_M_noRow 29 = .ok (.iconst 0, 1) := by decide +kernel
theorem dc_M_noRow_30 : decode mb_M_noRow 30 = .ok (.ireturn, 1) := by decide +kernel
theorem dc_M_noOrder_0 : decode mb_M_noOrder 0 = .ok (.aload_n 0, 1) := by decide +kernel
theorem dc_M_noOrder_1 : decode mb_M_noOrder 1 = .ok (.iload_n 1, 1) := by decide +kernel
theorem dc_M_noOrder_2 : decode mb_M_noOrder 2 = .ok (.ifCond .lt 9, 3) := by decide +kernel
theorem dc_M_noOrder_5 : decode mb_M_noOrder 5 = .ok (.iload_n 1, 1) := by decide +kernel
theorem dc_M_noOrder_6 : decode mb_M_noOrder 6 = .ok (.bipush 7, 2) := by decide +kernel
theorem dc_M_noOrder_8 : decode mb_M_noOrder 8 = .ok (.if_icmp .le 7, 3) := by decide +kernel
theorem dc_M_noOrder_11 : decode mb_M_noOrder 11 = .ok (.iconst 2, 1) := by decide +kernel
theorem dc_M_noOrder_12 : decode mb_M_noOrder 12 = .ok (.goto 4, 3) := by decide +kernel
theorem dc_M_noOrder_15 : decode mb_M_noOrder 15 = .ok (.iconst 0, 1) := by decide +kernel
theorem dc_M_noOrder_16 : decode mb_M_noOrder 16 = .ok (.putfield 29, 3) := by decide +kernel
theorem dc_M_noOrder_19 : decode mb_M_noOrder 19 = .ok (.aload_n 0, 1) := by decide +kernel
theorem dc_M_noOrder_20 : decode mb_M_noOrder 20 = .ok (.getfield 29, 3) := by decide +kernel
theorem dc_M_noOrder_23 : decode mb_M_noOrder 23 = .ok (.ifCond .le 7, 3) := by decide +kernel
theorem dc_M_noOrder_26 : decode mb_M_noOrder 26 = .ok (.iconst 1, 1) := by decide +kernel
theorem dc_M_noOrder_27 : decode mb_M_noOrder 27 = .ok (.goto 4, 3) := by decide +kernel
theorem dc_M_noOrder_30 : decode mb_M_noOrder 30 = .ok (.iconst 0, 1) := by decide +kernel
theorem dc_M_noOrder_31 : decode mb_M_noOrder 31 = .ok (.ireturn, 1) := by decide +kernel
theorem dc_M_thrown_0 : decode mb_M_thrown 0 = .ok (.aload_n 0, 1) := by decide +kernel
theorem dc_M_thrown_1 : decode mb_M_thrown 1 = .ok (.getfield 29, 3) := by decide +kernel
theorem dc_M_thrown_4 : decode mb_M_thrown 4 = .ok (.ireturn, 1) := by decide +kernel
theorem dc_M_within_0 : decode mb_M_within 0 = .ok (.aload_n 0, 1) := by decide +kernel
theorem dc_M_within_1 : decode mb_M_within 1 = .ok (.iconst 0, 1) := by decide +kernel
theorem dc_M_within_2 : decode mb_M_within 2 = .ok (.putfield 29, 3) := by decide +kernel
theorem dc_M_within_5 : decode mb_M_within 5 = .ok (.iconst 1, 1) := by decide +kernel
theorem dc_M_within_6 : decode mb_M_within 6 = .ok (.ireturn, 1) := by decide +kernel
theorem dc_M_size_0 : decode mb_M_size 0 = .ok (.aload_n 0, 1) := by decide +kernel
theorem dc_M_size_1 : decode mb_M_size 1 = .ok (.iload_n 1, 1) := by decide +kernel
theorem dc_M_size_2 : decode mb_M_size 2 = .ok (.invokevirtual 56, 3) := by decide +kernel
theorem dc_M_size_5 : decode mb_M_size 5 = .ok (.ifCond .eq 7, 3) := by decide +kernel
theorem dc_M_size_8 : decode mb_M_size 8 = .ok (.iconst 0, 1) := by decide +kernel
theorem dc_M_size_9 : decode mb_M_size 9 = .ok (.goto 9, 3) := by decide +kernel
theorem dc_M_size_12 : decode mb_M_size 12 = .ok (.aload_n 0, 1) := by decide +kernel
theorem dc_M_size_13 : decode mb_M_size 13 = .ok (.getfield 17, 3) := by decide +kernel
theorem dc_M_size_16 : decode mb_M_size 16 = .ok (.iload_n 1, 1) := by decide +kernel
theorem dc_M_size_17 : decode mb_M_size 17 = .ok (.iaload, 1) := by decide +kernel
theorem dc_M_size_18 : decode mb_M_size 18 = .ok (.ireturn, 1) := by decide +kernel
theorem dc_M_mark_0 : decode mb_M_mark 0 = .ok (.aload_n 0, 1) := by decide +kernel
theorem dc_M_mark_1 : decode mb_M_mark 1 = .ok (.iload_n 1, 1) := by decide +kernel
theorem dc_M_mark_2 : decode mb_M_mark 2 = .ok (.invokevirtual 56, 3) := by decide +kernel
theorem dc_M_mark_5 : decode mb_M_mark 5 = .ok (.ifCond .eq 5, 3) := by decide +kernel
theorem dc_M_mark_8 : decode mb_M_mark 8 = .ok (.lconst 0, 1) := by decide +kernel
theorem dc_M_mark_9 : decode mb_M_mark 9 = .ok (.lreturn, 1) := by decide +kernel
theorem dc_M_mark_10 : decode mb_M_mark 10 = .ok (.ldc2_w 60, 3) := by decide +kernel
theorem dc_M_mark_13 : decode mb_M_mark 13 = .ok (.lstore_n 2, 1) := by decide +kernel
theorem dc_M_mark_14 : decode mb_M_mark 14 = .ok (.iconst 0, 1) := by decide +kernel
theorem dc_M_mark_15 : decode mb_M_mark 15 = .ok (.istore 4, 2) := by decide +kernel
theorem dc_M_mark_17 : decode mb_M_mark 17 = .ok (.iload 4, 2) := by decide +kernel
theorem dc_M_mark_19 : decode mb_M_mark 19 = .ok (.aload_n 0, 1) := by decide +kernel
theorem dc_M_mark_20 : decode mb_M_mark 20 = .ok (.getfield 17, 3) := by decide +kernel
theorem dc_M_mark_23 : decode mb_M_mark 23 = .ok (.iload_n 1, 1) := by decide +kernel
theorem dc_M_mark_24 : decode mb_M_mark 24 = .ok (.iaload, 1) := by decide +kernel
theorem dc_M_mark_25 : decode mb_M_mark 25 = .ok (.if_icmp .ge 48, 3) := by decide +kernel
theorem dc_M_mark_28 : decode mb_M_mark 28 = .ok (.ldc2_w 109, 3) := by decide +kernel
theorem dc_M_mark_31 : decode mb_M_mark 31 = .ok (.lload_n 2, 1) := by decide +kernel
theorem dc_M_mark_32 : decode mb_M_mark 32 = .ok (.lmul, 1) := by decide +kernel
theorem dc_M_mark_33 : decode mb_M_mark 33 = .ok (.aload_n 0, 1) := by decide +kernel
theorem dc_M_mark_34 : decode mb_M_mark 34 = .ok (.getfield 7, 3) := by decide +kernel
theorem dc_M_mark_37 : decode mb_M_mark 37 = .ok (.sipush 1024, 3) := by decide +kernel
theorem dc_M_mark_40 : decode mb_M_mark 40 = .ok (.iload_n 1, 1) := by decide +kernel
theorem dc_M_mark_41 : decode mb_M_mark 41 = .ok (.imul, 1) := by decide +kernel
theorem dc_M_mark_42 : decode mb_M_mark 42 = .ok (.iload 4, 2) := by decide +kernel
theorem dc_M_mark_44 : decode mb_M_mark 44 = .ok (.iadd, 1) := by decide +kernel
theorem dc_M_mark_45 : decode mb_M_mark 45 = .ok (.laload, 1) := by decide +kernel
theorem dc_M_mark_46 : decode mb_M_mark 46 = .ok (.ladd, 1) := by decide +kernel
theorem dc_M_mark_47 : decode mb_M_mark 47 = .ok (.ldc2_w 111, 3) := by decide +kernel
theorem dc_M_mark_50 : decode mb_M_mark 50 = .ok (.aload_n 0, 1) := by decide +kernel
theorem dc_M_mark_51 : decode mb_M_mark 51 = .ok (.getfield 13, 3) := by decide +kernel
theorem dc_M_mark_54 : decode mb_M_mark 54 = .ok (.sipush 1024, 3) := by decide +kernel
theorem dc_M_mark_57 : decode mb_M_mark 57 = .ok (.iload_n 1, 1) := by decide +kernel
theorem dc_M_mark_58 : decode mb_M_mark 58 = .ok (.imul, 1) := by decide +kernel
theorem dc_M_mark_59 : decode mb_M_mark 59 = .ok (.iload 4, 2) := by decide +kernel
theorem dc_M_mark_61 : decode mb_M_mark 61 = .ok (.iadd, 1) := by decide +kernel
theorem dc_M_mark_62 : decode mb_M_mark 62 = .ok (.iaload, 1) := by decide +kernel
theorem dc_M_mark_63 : decode mb_M_mark 63 = .ok (.i2l, 1) := by decide +kernel
theorem dc_M_mark_64 : decode mb_M_mark 64 = .ok (.lmul, 1) := by decide +kernel
theorem dc_M_mark_65 : decode mb_M_mark 65 = .ok (.ladd, 1) := by decide +kernel
theorem dc_M_mark_66 : decode mb_M_mark 66 = .ok (.lstore_n 2, 1) := by decide +kernel
theorem dc_M_mark_67 : decode mb_M_mark 67 = .ok (.iinc 4 1, 3) := by decide +kernel
theorem dc_M_mark_70 : decode mb_M_mark 70 = .ok (.goto (-53), 3) := by decide +kernel
theorem dc_M_mark_73 : decode mb_M_mark 73 = .ok (.lload_n 2, 1) := by decide +kernel
theorem dc_M_mark_74 : decode mb_M_mark 74 = .ok (.lreturn, 1) := by decide +kernel
/-- a row of the reference; the code of what it would throw -/
def ze4 (S : YS) (q : Nat) : Nat → Int64 × Int32 := fun j => (gL S 25 (1024 * q + j), gI S 26 (1024 * q + j))
def yx (S : YS) (c : Nat) : YS := sF S 24 0 (nI c)
theorem yx_c (S : YS) (c : Nat) : gF (yx S c) 24 0 = nI c := by unfold yx; rw [gF_sF, if_pos ⟨rfl, rfl⟩]
theorem yx_yx (S : YS) (c d : Nat) : yx (yx S c) d = yx S d := sF_sF S 24 0 _ _
/-- is it a row, an order -/
def zgr (row : Int32) : Prop := ¬ row < 0 ∧ row ≤ nI 3
def zgo (od : Int32) : Prop := ¬ od < 0 ∧ od ≤ nI 7
theorem zg_nI {x : Int32} {b : Nat} (hb : b < 2 ^ 31) (h1 : ¬ x < 0) (h2 : x ≤ nI b) : ∃ k, k ≤ b ∧ x = nI k := by
  have hx := zw_i x
  rw [Int32.lt_iff_toInt_lt] at h1
  rw [Int32.le_iff_toInt_le, nI_toInt hb] at h2
  have h0 : (0 : Int32).toInt = 0 := rfl
  exact ⟨x.toInt.toNat, by omega, (nI_toNat (by omega)).symm⟩
theorem zgr_of {k : Nat} (h : k < 4) : zgr (nI k) := by
  rcases (show k = 0 ∨ k = 1 ∨ k = 2 ∨ k = 3 by omega) with e | e | e | e <;> subst e <;> exact ⟨by decide, by decide⟩
theorem zgo_of {k : Nat} (h : k < 8) : zgo (nI k) := by
  rcases (show k = 0 ∨ k = 1 ∨ k = 2 ∨ k = 3 ∨ k = 4 ∨ k = 5 ∨ k = 6 ∨ k = 7 by omega) with e | e | e | e | e | e | e | e <;> subst e <;> exact ⟨by decide, by decide⟩
set_option maxHeartbeats 4000000 in
set_option maxRecDepth 100000 in
theorem ct_M_noRow (l : Launch) (g : YG) (S : YS) (row : Int32) (h : zgr row) : yC l mn_M_noRow mb_M_noRow 2 (some .boolean) 0 g [.ref (g.ad (24)), .int (row)] S (fun v S' => v = some (.int 0) ∧ S' = yx S 0) := by
  refine yC_of (by decide) (Nat.le_of_ble_eq_true rfl) ?_
  intro o hl hg hB0 hE
  subst hl
  subst hg
  have hB : yB o mb_M_noRow "OrderBenchModel" := hB0
  have hm := hE.1
  show yW o (S) 0 [(0, .ref (o.G.ad (24))), (1, .int (row))] []
  refine y_aload_n (pc' := 1) hB dc_M_noRow_0 rfl rfl 0 rfl ?_
  refine y_iload_n (pc' := 2) hB dc_M_noRow_1 rfl rfl 1 rfl ?_
  refine y_if_lt (x := row) (pc' := 5) (tg := 10) hB dc_M_noRow_2 rfl rfl (fun b1 => ?_) (fun b1 => ?_)
  · exact absurd b1 h.1
  · refine y_iload_n (pc' := 6) hB dc_M_noRow_5 rfl rfl 1 rfl ?_
    refine y_iconst (v := nI 3) (pc' := 7) hB dc_M_noRow_6 rfl rfl ?_
    refine y_icmp_le (x := row) (y := nI (3)) (pc' := 10) (tg := 14) hB dc_M_noRow_7 rfl rfl (fun b2 => ?_) (fun b2 => ?_)
    · refine y_iconst (v := nI 0) (pc' := 15) hB dc_M_noRow_14 rfl rfl ?_
      refine p_M_code (pc' := 18) hB dc_M_noRow_15 rfl q_639 ?_
      show yW o (yx S 0) 18 [(0, .ref (o.G.ad (24))), (1, .int (row))] []
      refine y_aload_n (pc' := 19) hB dc_M_noRow_18 rfl rfl 0 rfl ?_
      refine f_M_code (pc' := 22) hB dc_M_noRow_19 rfl q_639 ?_
      refine y_topi (y := nI (0)) (yx_c S 0) ?_
      refine n_if_le (pc' := 25) (tg := 29) hB dc_M_noRow_22 rfl rfl (by omega) (fun b3 => ?_) (fun b3 => ?_)
      · refine y_iconst (v := nI 0) (pc' := 30) hB dc_M_noRow_29 rfl rfl ?_
        exact y_zret hB hE dc_M_noRow_30 (Or.inl rfl) ⟨rfl, rfl⟩
      · exact absurd b3 (by decide)
    · exact absurd h.2 b2
set_option maxHeartbeats 4000000 in
set_option maxRecDepth 100000 in
theorem ct_M_noRowX (l : Launch) (g : YG) (S : YS) (row : Int32) (h : ¬ zgr row) : yC l mn_M_noRow mb_M_noRow 2 (some .boolean) 0 g [.ref (g.ad (24)), .int (row)] S (fun v S' => v = some (.int 1) ∧ S' = yx S 1) := by
  refine yC_of (by decide) (Nat.le_of_ble_eq_true rfl) ?_
  intro o hl hg hB0 hE
  subst hl
  subst hg
  have hB : yB o mb_M_noRow "OrderBenchModel" := hB0
  have hm := hE.1
  show yW o (S) 0 [(0, .ref (o.G.ad (24))), (1, .int (row))] []
  refine y_aload_n (pc' := 1) hB dc_M_noRow_0 rfl rfl 0 rfl ?_
  refine y_iload_n (pc' := 2) hB dc_M_noRow_1 rfl rfl 1 rfl ?_
  refine y_if_lt (x := row) (pc' := 5) (tg := 10) hB dc_M_noRow_2 rfl rfl (fun b1 => ?_) (fun b1 => ?_)
  · refine y_iconst (v := nI 1) (pc' := 11) hB dc_M_noRow_10 rfl rfl ?_
    refine y_goto (tg := 15) hB dc_M_noRow_11 rfl ?_
    refine p_M_code (pc' := 18) hB dc_M_noRow_15 rfl q_639 ?_
    show yW o (yx S 1) 18 [(0, .ref (o.G.ad (24))), (1, .int (row))] []
    refine y_aload_n (pc' := 19) hB dc_M_noRow_18 rfl rfl 0 rfl ?_
    refine f_M_code (pc' := 22) hB dc_M_noRow_19 rfl q_639 ?_
    refine y_topi (y := nI (1)) (yx_c S 1) ?_
    refine n_if_le (pc' := 25) (tg := 29) hB dc_M_noRow_22 rfl rfl (by omega) (fun b3 => ?_) (fun b3 => ?_)
    · exact absurd b3 (by decide)
    · refine y_iconst (v := nI 1) (pc' := 26) hB dc_M_noRow_25 rfl rfl ?_
      refine y_goto (tg := 30) hB dc_M_noRow_26 rfl ?_
      exact y_zret hB hE dc_M_noRow_30 (Or.inr rfl) ⟨rfl, rfl⟩
  · refine y_iload_n (pc' := 6) hB dc_M_noRow_5 rfl rfl 1 rfl ?_
    refine y_iconst (v := nI 3) (pc' := 7) hB dc_M_noRow_6 rfl rfl ?_
    refine y_icmp_le (x := row) (y := nI (3)) (pc' := 10) (tg := 14) hB dc_M_noRow_7 rfl rfl (fun b2 => ?_) (fun b2 => ?_)
    · exact absurd ⟨b1, b2⟩ h
    · refine y_iconst (v := nI 1) (pc' := 11) hB dc_M_noRow_10 rfl rfl ?_
      refine y_goto (tg := 15) hB dc_M_noRow_11 rfl ?_
      refine p_M_code (pc' := 18) hB dc_M_noRow_15 rfl q_639 ?_
      show yW o (yx S 1) 18 [(0, .ref (o.G.ad (24))), (1, .int (row))] []
      refine y_aload_n (pc' := 19) hB dc_M_noRow_18 rfl rfl 0 rfl ?_
      refine f_M_code (pc' := 22) hB dc_M_noRow_19 rfl q_639 ?_
      refine y_topi (y := nI (1)) (yx_c S 1) ?_
      refine n_if_le (pc' := 25) (tg := 29) hB dc_M_noRow_22 rfl rfl (by omega) (fun b3 => ?_) (fun b3 => ?_)
      · exact absurd b3 (by decide)
      · refine y_iconst (v := nI 1) (pc' := 26) hB dc_M_noRow_25 rfl rfl ?_
        refine y_goto (tg := 30) hB dc_M_noRow_26 rfl ?_
        exact y_zret hB hE dc_M_noRow_30 (Or.inr rfl) ⟨rfl, rfl⟩
set_option maxHeartbeats 4000000 in
set_option maxRecDepth 100000 in
theorem ct_M_noOrder (l : Launch) (g : YG) (S : YS) (od : Int32) (h : zgo od) : yC l mn_M_noOrder mb_M_noOrder 2 (some .boolean) 0 g [.ref (g.ad (24)), .int (od)] S (fun v S' => v = some (.int 0) ∧ S' = yx S 0) := by
  refine yC_of (by decide) (Nat.le_of_ble_eq_true rfl) ?_
  intro o hl hg hB0 hE
  subst hl
  subst hg
  have hB : yB o mb_M_noOrder "OrderBenchModel" := hB0
  have hm := hE.1
  show yW o (S) 0 [(0, .ref (o.G.ad (24))), (1, .int (od))] []
  refine y_aload_n (pc' := 1) hB dc_M_noOrder_0 rfl rfl 0 rfl ?_
  refine y_iload_n (pc' := 2) hB dc_M_noOrder_1 rfl rfl 1 rfl ?_
  refine y_if_lt (x := od) (pc' := 5) (tg := 11) hB dc_M_noOrder_2 rfl rfl (fun b1 => ?_) (fun b1 => ?_)
  · exact absurd b1 h.1
  · refine y_iload_n (pc' := 6) hB dc_M_noOrder_5 rfl rfl 1 rfl ?_
    refine y_bipush (v := nI 7) (pc' := 8) hB dc_M_noOrder_6 rfl (by decide) ?_
    refine y_icmp_le (x := od) (y := nI (7)) (pc' := 11) (tg := 15) hB dc_M_noOrder_8 rfl rfl (fun b2 => ?_) (fun b2 => ?_)
    · refine y_iconst (v := nI 0) (pc' := 16) hB dc_M_noOrder_15 rfl rfl ?_
      refine p_M_code (pc' := 19) hB dc_M_noOrder_16 rfl q_639 ?_
      show yW o (yx S 0) 19 [(0, .ref (o.G.ad (24))), (1, .int (od))] []
      refine y_aload_n (pc' := 20) hB dc_M_noOrder_19 rfl rfl 0 rfl ?_
      refine f_M_code (pc' := 23) hB dc_M_noOrder_20 rfl q_639 ?_
      refine y_topi (y := nI (0)) (yx_c S 0) ?_
      refine n_if_le (pc' := 26) (tg := 30) hB dc_M_noOrder_23 rfl rfl (by omega) (fun b3 => ?_) (fun b3 => ?_)
      · refine y_iconst (v := nI 0) (pc' := 31) hB dc_M_noOrder_30 rfl rfl ?_
        exact y_zret hB hE dc_M_noOrder_31 (Or.inl rfl) ⟨rfl, rfl⟩
      · exact absurd b3 (by decide)
    · exact absurd h.2 b2
set_option maxHeartbeats 4000000 in
set_option maxRecDepth 100000 in
theorem ct_M_noOrderX (l : Launch) (g : YG) (S : YS) (od : Int32) (h : ¬ zgo od) : yC l mn_M_noOrder mb_M_noOrder 2 (some .boolean) 0 g [.ref (g.ad (24)), .int (od)] S (fun v S' => v = some (.int 1) ∧ S' = yx S 2) := by
  refine yC_of (by decide) (Nat.le_of_ble_eq_true rfl) ?_
  intro o hl hg hB0 hE
  subst hl
  subst hg
  have hB : yB o mb_M_noOrder "OrderBenchModel" := hB0
  have hm := hE.1
  show yW o (S) 0 [(0, .ref (o.G.ad (24))), (1, .int (od))] []
  refine y_aload_n (pc' := 1) hB dc_M_noOrder_0 rfl rfl 0 rfl ?_
  refine y_iload_n (pc' := 2) hB dc_M_noOrder_1 rfl rfl 1 rfl ?_
  refine y_if_lt (x := od) (pc' := 5) (tg := 11) hB dc_M_noOrder_2 rfl rfl (fun b1 => ?_) (fun b1 => ?_)
  · refine y_iconst (v := nI 2) (pc' := 12) hB dc_M_noOrder_11 rfl rfl ?_
    refine y_goto (tg := 16) hB dc_M_noOrder_12 rfl ?_
    refine p_M_code (pc' := 19) hB dc_M_noOrder_16 rfl q_639 ?_
    show yW o (yx S 2) 19 [(0, .ref (o.G.ad (24))), (1, .int (od))] []
    refine y_aload_n (pc' := 20) hB dc_M_noOrder_19 rfl rfl 0 rfl ?_
    refine f_M_code (pc' := 23) hB dc_M_noOrder_20 rfl q_639 ?_
    refine y_topi (y := nI (2)) (yx_c S 2) ?_
    refine n_if_le (pc' := 26) (tg := 30) hB dc_M_noOrder_23 rfl rfl (by omega) (fun b3 => ?_) (fun b3 => ?_)
    · exact absurd b3 (by decide)
    · refine y_iconst (v := nI 1) (pc' := 27) hB dc_M_noOrder_26 rfl rfl ?_
      refine y_goto (tg := 31) hB dc_M_noOrder_27 rfl ?_
      exact y_zret hB hE dc_M_noOrder_31 (Or.inr rfl) ⟨rfl, rfl⟩
  · refine y_iload_n (pc' := 6) hB dc_M_noOrder_5 rfl rfl 1 rfl ?_
    refine y_bipush (v := nI 7) (pc' := 8) hB dc_M_noOrder_6 rfl (by decide) ?_
    refine y_icmp_le (x := od) (y := nI (7)) (pc' := 11) (tg := 15) hB dc_M_noOrder_8 rfl rfl (fun b2 => ?_) (fun b2 => ?_)
    · exact absurd ⟨b1, b2⟩ h
    · refine y_iconst (v := nI 2) (pc' := 12) hB dc_M_noOrder_11 rfl rfl ?_
      refine y_goto (tg := 16) hB dc_M_noOrder_12 rfl ?_
      refine p_M_code (pc' := 19) hB dc_M_noOrder_16 rfl q_639 ?_
      show yW o (yx S 2) 19 [(0, .ref (o.G.ad (24))), (1, .int (od))] []
      refine y_aload_n (pc' := 20) hB dc_M_noOrder_19 rfl rfl 0 rfl ?_
      refine f_M_code (pc' := 23) hB dc_M_noOrder_20 rfl q_639 ?_
      refine y_topi (y := nI (2)) (yx_c S 2) ?_
      refine n_if_le (pc' := 26) (tg := 30) hB dc_M_noOrder_23 rfl rfl (by omega) (fun b3 => ?_) (fun b3 => ?_)
      · exact absurd b3 (by decide)
      · refine y_iconst (v := nI 1) (pc' := 27) hB dc_M_noOrder_26 rfl rfl ?_
        refine y_goto (tg := 31) hB dc_M_noOrder_27 rfl ?_
        exact y_zret hB hE dc_M_noOrder_31 (Or.inr rfl) ⟨rfl, rfl⟩
set_option maxHeartbeats 4000000 in
set_option maxRecDepth 100000 in
theorem ct_M_thrown (l : Launch) (g : YG) (S : YS)  : yC l mn_M_thrown mb_M_thrown 1 (some .int) 0 g [.ref (g.ad (24))] S (fun v S' => v = some (.int (gF S 24 0)) ∧ S' = S) := by
  refine yC_of (by decide) (Nat.le_of_ble_eq_true rfl) ?_
  intro o hl hg hB0 hE
  subst hl
  subst hg
  have hB : yB o mb_M_thrown "OrderBenchModel" := hB0
  have hm := hE.1
  show yW o (S) 0 [(0, .ref (o.G.ad (24)))] []
  refine y_aload_n (pc' := 1) hB dc_M_thrown_0 rfl rfl 0 rfl ?_
  refine f_M_code (pc' := 4) hB dc_M_thrown_1 rfl q_639 ?_
  exact y_iret hB hE dc_M_thrown_4 ⟨rfl, rfl⟩
set_option maxHeartbeats 4000000 in
set_option maxRecDepth 100000 in
theorem ct_M_within (l : Launch) (g : YG) (S : YS)  : yC l mn_M_within mb_M_within 1 (some .boolean) 0 g [.ref (g.ad (24))] S (fun v S' => v = some (.int 1) ∧ S' = yx S 0) := by
  refine yC_of (by decide) (Nat.le_of_ble_eq_true rfl) ?_
  intro o hl hg hB0 hE
  subst hl
  subst hg
  have hB : yB o mb_M_within "OrderBenchModel" := hB0
  have hm := hE.1
  show yW o (S) 0 [(0, .ref (o.G.ad (24)))] []
  refine y_aload_n (pc' := 1) hB dc_M_within_0 rfl rfl 0 rfl ?_
  refine y_iconst (v := nI 0) (pc' := 2) hB dc_M_within_1 rfl rfl ?_
  refine p_M_code (pc' := 5) hB dc_M_within_2 rfl q_639 ?_
  refine y_iconst (v := nI 1) (pc' := 6) hB dc_M_within_5 rfl rfl ?_
  exact y_zret hB hE dc_M_within_6 (Or.inr rfl) ⟨rfl, rfl⟩
set_option maxHeartbeats 4000000 in
set_option maxRecDepth 100000 in
theorem ct_M_size (l : Launch) (g : YG) (S : YS) (k : Nat) (hk : k < 4) : yC l mn_M_size mb_M_size 2 (some .int) 1 g [.ref (g.ad (24)), .int (nI (k))] S (fun v S' => v = some (.int (gI S 27 k)) ∧ S' = yx S 0) := by
  refine yC_of (by decide) (Nat.le_of_ble_eq_true rfl) ?_
  intro o hl hg hB0 hE
  subst hl
  subst hg
  have hB : yB o mb_M_size "OrderBenchModel" := hB0
  have hm := hE.1
  show yW o (S) 0 [(0, .ref (o.G.ad (24))), (1, .int (nI (k)))] []
  refine y_aload_n (pc' := 1) hB dc_M_size_0 rfl rfl 0 rfl ?_
  refine y_iload_n (pc' := 2) hB dc_M_size_1 rfl rfl 1 rfl ?_
  refine y_callV (c := 24) (ci := 4) (As := [.int (nI (k))]) (rest := []) (pc' := 5) hB hE (ct_M_noRow o.l o.G S (nI k) (zgr_of hk)) mm_M_noRow q_672 q_674 qs_12 (by decide) rfl rfl dc_M_size_2 rfl (by decide) rfl rfl (Nat.le_of_ble_eq_true rfl) (fun v S' hpost => ?_)
  obtain ⟨rfl, hSS⟩ := hpost
  rw [hSS]
  clear hSS S'
  show yW o (yx S 0) 5 [(0, .ref (o.G.ad (24))), (1, .int (nI (k)))] [.int (0)]
  refine y_if_eq (x := 0) (pc' := 8) (tg := 12) hB dc_M_size_5 rfl rfl (fun b1 => ?_) (fun b1 => ?_)
  · refine y_aload_n (pc' := 13) hB dc_M_size_12 rfl rfl 0 rfl ?_
    refine f_M_sizes (pc' := 16) hB dc_M_size_13 rfl q_642 ?_
    refine y_iload_n (pc' := 17) hB dc_M_size_16 rfl rfl 1 rfl ?_
    refine y_iald (c := 27) (n := 4) (j := k) (pc' := 18) hB dc_M_size_17 rfl (by decide) rfl (by omega) (by decide) ?_
    exact y_iret hB hE dc_M_size_18 ⟨rfl, rfl⟩
  · exact absurd rfl b1
set_option maxHeartbeats 4000000 in
set_option maxRecDepth 100000 in
theorem ct_M_sizeX (l : Launch) (g : YG) (S : YS) (row : Int32) (h : ¬ zgr row) : yC l mn_M_size mb_M_size 2 (some .int) 1 g [.ref (g.ad (24)), .int (row)] S (fun v S' => v = some (.int 0) ∧ S' = yx S 1) := by
  refine yC_of (by decide) (Nat.le_of_ble_eq_true rfl) ?_
  intro o hl hg hB0 hE
  subst hl
  subst hg
  have hB : yB o mb_M_size "OrderBenchModel" := hB0
  have hm := hE.1
  show yW o (S) 0 [(0, .ref (o.G.ad (24))), (1, .int (row))] []
  refine y_aload_n (pc' := 1) hB dc_M_size_0 rfl rfl 0 rfl ?_
  refine y_iload_n (pc' := 2) hB dc_M_size_1 rfl rfl 1 rfl ?_
  refine y_callV (c := 24) (ci := 4) (As := [.int (row)]) (rest := []) (pc' := 5) hB hE (ct_M_noRowX o.l o.G S row h) mm_M_noRow q_672 q_674 qs_12 (by decide) rfl rfl dc_M_size_2 rfl (by decide) rfl rfl (Nat.le_of_ble_eq_true rfl) (fun v S' hpost => ?_)
  obtain ⟨rfl, hSS⟩ := hpost
  rw [hSS]
  clear hSS S'
  show yW o (yx S 1) 5 [(0, .ref (o.G.ad (24))), (1, .int (row))] [.int (1)]
  refine y_if_eq (x := 1) (pc' := 8) (tg := 12) hB dc_M_size_5 rfl rfl (fun b1 => ?_) (fun b1 => ?_)
  · exact absurd b1 (by decide)
  · refine y_iconst (v := nI 0) (pc' := 9) hB dc_M_size_8 rfl rfl ?_
    refine y_goto (tg := 18) hB dc_M_size_9 rfl ?_
    exact y_iret hB hE dc_M_size_18 ⟨rfl, rfl⟩
set_option maxHeartbeats 4000000 in
set_option maxRecDepth 100000 in
theorem ct_M_mark (l : Launch) (g : YG) (S : YS) (k n : Nat) (hk : k < 4) (hn : n ≤ 1024) (hc : gI S 27 k = nI n) : yC l mn_M_mark mb_M_mark 5 (some .long) 1 g [.ref (g.ad (24)), .int (nI (k))] S (fun v S' => v = some (.long (zmk (ze4 S k) n)) ∧ S' = yx S 0) := by
  refine yC_of (by decide) (Nat.le_of_ble_eq_true rfl) ?_
  intro o hl hg hB0 hE
  subst hl
  subst hg
  have hB : yB o mb_M_mark "OrderBenchModel" := hB0
  have hm := hE.1
  show yW o (S) 0 [(0, .ref (o.G.ad (24))), (1, .int (nI (k)))] []
  refine y_aload_n (pc' := 1) hB dc_M_mark_0 rfl rfl 0 rfl ?_
  refine y_iload_n (pc' := 2) hB dc_M_mark_1 rfl rfl 1 rfl ?_
  refine y_callV (c := 24) (ci := 4) (As := [.int (nI (k))]) (rest := []) (pc' := 5) hB hE (ct_M_noRow o.l o.G S (nI k) (zgr_of hk)) mm_M_noRow q_672 q_674 qs_12 (by decide) rfl rfl dc_M_mark_2 rfl (by decide) rfl rfl (Nat.le_of_ble_eq_true rfl) (fun v S' hpost => ?_)
  obtain ⟨rfl, hSS⟩ := hpost
  rw [hSS]
  clear hSS S'
  show yW o (yx S 0) 5 [(0, .ref (o.G.ad (24))), (1, .int (nI (k)))] [.int (0)]
  refine y_if_eq (x := 0) (pc' := 8) (tg := 10) hB dc_M_mark_5 rfl rfl (fun b1 => ?_) (fun b1 => ?_)
  · refine y_ldc2 (v := 7) (pc' := 13) hB dc_M_mark_10 rfl q_683 ?_
    refine y_lstore_n (pc' := 14) (lv' := [(2, .long (7)), (0, .ref (o.G.ad (24))), (1, .int (nI (k)))]) hB hm dc_M_mark_13 rfl rfl (by decide) rfl ?_
    refine y_iconst (v := nI 0) (pc' := 15) hB dc_M_mark_14 rfl rfl ?_
    refine y_istore (pc' := 17) (lv' := [(4, .int (nI (0))), (2, .long (7)), (0, .ref (o.G.ad (24))), (1, .int (nI (k)))]) hB hm dc_M_mark_15 rfl (by decide) rfl ?_
    have loop : ∀ (d : Nat) (i : Nat), n - i < d → i ≤ n → yW o (yx S 0) 17 [(4, .int (nI (i))), (2, .long (zmk (ze4 S k) i)), (0, .ref (o.G.ad (24))), (1, .int (nI (k)))] [] := by
      intro d
      induction d with
      | zero => intro i hd; omega
      | succ d ih =>
        intro i hd h1
        refine y_iload (pc' := 19) hB dc_M_mark_17 rfl 0 rfl ?_
        refine y_aload_n (pc' := 20) hB dc_M_mark_19 rfl rfl 2 rfl ?_
        refine f_M_sizes (pc' := 23) hB dc_M_mark_20 rfl q_642 ?_
        refine y_iload_n (pc' := 24) hB dc_M_mark_23 rfl rfl 3 rfl ?_
        refine y_iald (c := 27) (n := 4) (j := k) (pc' := 25) hB dc_M_mark_24 rfl (by decide) rfl (by omega) (by decide) ?_
        refine y_topi (y := nI (n)) (hc) ?_
        refine n_icmp_ge (pc' := 28) (tg := 73) hB dc_M_mark_25 rfl rfl (by omega) (by omega) (fun b2 => ?_) (fun b2 => ?_)
        · refine y_lload_n (pc' := 74) hB dc_M_mark_73 rfl rfl 1 rfl ?_
          have e : i = n := by omega
          subst e
          exact y_lret hB hE dc_M_mark_74 ⟨rfl, rfl⟩
        · refine y_ldc2 (v := 31) (pc' := 31) hB dc_M_mark_28 rfl q_820 ?_
          refine y_lload_n (pc' := 32) hB dc_M_mark_31 rfl rfl 1 rfl ?_
          refine y_lmul (v := 31 * (zmk (ze4 S k) i)) (pc' := 33) hB dc_M_mark_32 rfl rfl ?_
          refine y_aload_n (pc' := 34) hB dc_M_mark_33 rfl rfl 2 rfl ?_
          refine f_M_keys (pc' := 37) hB dc_M_mark_34 rfl q_640 ?_
          refine y_sipush (v := nI 1024) (pc' := 40) hB dc_M_mark_37 rfl (by decide) ?_
          refine y_iload_n (pc' := 41) hB dc_M_mark_40 rfl rfl 3 rfl ?_
          refine n_imul (x := 1024) (y := k) (pc' := 42) hB dc_M_mark_41 rfl ?_
          refine y_iload (pc' := 44) hB dc_M_mark_42 rfl 0 rfl ?_
          refine n_iadd (x := 1024 * k) (y := i) (pc' := 45) hB dc_M_mark_44 rfl ?_
          refine y_lald (c := 25) (n := 4096) (j := (1024 * k) + i) (pc' := 46) hB dc_M_mark_45 rfl (by decide) rfl (by omega) (by decide) ?_
          refine y_ladd (v := (31 * (zmk (ze4 S k) i)) + (gL (yx S 0) (25) ((1024 * k) + i))) (pc' := 47) hB dc_M_mark_46 rfl rfl ?_
          refine y_ldc2 (v := 17) (pc' := 50) hB dc_M_mark_47 rfl q_821 ?_
          refine y_aload_n (pc' := 51) hB dc_M_mark_50 rfl rfl 2 rfl ?_
          refine f_M_tags (pc' := 54) hB dc_M_mark_51 rfl q_641 ?_
          refine y_sipush (v := nI 1024) (pc' := 57) hB dc_M_mark_54 rfl (by decide) ?_
          refine y_iload_n (pc' := 58) hB dc_M_mark_57 rfl rfl 3 rfl ?_
          refine n_imul (x := 1024) (y := k) (pc' := 59) hB dc_M_mark_58 rfl ?_
          refine y_iload (pc' := 61) hB dc_M_mark_59 rfl 0 rfl ?_
          refine n_iadd (x := 1024 * k) (y := i) (pc' := 62) hB dc_M_mark_61 rfl ?_
          refine y_iald (c := 26) (n := 4096) (j := (1024 * k) + i) (pc' := 63) hB dc_M_mark_62 rfl (by decide) rfl (by omega) (by decide) ?_
          refine y_i2l (v := Int32.toInt64 (gI (yx S 0) (26) ((1024 * k) + i))) (pc' := 64) hB dc_M_mark_63 rfl rfl ?_
          refine y_lmul (v := 17 * (Int32.toInt64 (gI (yx S 0) (26) ((1024 * k) + i)))) (pc' := 65) hB dc_M_mark_64 rfl rfl ?_
          refine y_ladd (v := ((31 * (zmk (ze4 S k) i)) + (gL (yx S 0) (25) ((1024 * k) + i))) + (17 * (Int32.toInt64 (gI (yx S 0) (26) ((1024 * k) + i))))) (pc' := 66) hB dc_M_mark_65 rfl rfl ?_
          refine y_lstore_n (pc' := 67) (lv' := [(2, .long (((31 * (zmk (ze4 S k) i)) + (gL (yx S 0) (25) ((1024 * k) + i))) + (17 * (Int32.toInt64 (gI (yx S 0) (26) ((1024 * k) + i)))))), (4, .int (nI (i))), (0, .ref (o.G.ad (24))), (1, .int (nI (k)))]) hB hm dc_M_mark_66 rfl rfl (by decide) rfl ?_
          refine n_inc (q := 1) (z := 1) (pc' := 70) (lv' := [(4, .int (nI (i + 1))), (2, .long (((31 * (zmk (ze4 S k) i)) + (gL (yx S 0) (25) ((1024 * k) + i))) + (17 * (Int32.toInt64 (gI (yx S 0) (26) ((1024 * k) + i)))))), (0, .ref (o.G.ad (24))), (1, .int (nI (k)))]) hB hm dc_M_mark_67 rfl rfl (by decide) rfl ?_
          refine y_goto (tg := 17) hB dc_M_mark_70 rfl ?_
          refine y_sub [0, 1, 2, 3] rfl ?_
          exact ih (i + 1) (by omega) b2
    exact loop (n + 1) 0 (by omega) (by omega)
  · exact absurd rfl b1
