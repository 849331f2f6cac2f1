/-! JUDGE: begin, compare, before, drops, falls, runEnd, placeIn -/
theorem dc_J_begin_0 : decode mb_J_begin 0 = .ok (.aload_n 0, 1) := by decide +kernel
theorem dc_J_begin_1 : decode mb_J_begin 1 = .ok (.iload_n 1, 1) := by decide +kernel
theorem dc_J_begin_2 : decode mb_J_begin 2 = .ok (.putfield 9, 3) := by decide +kernel
theorem dc_J_begin_5 : decode mb_J_begin 5 = .ok (.aload_n 0, 1) := by decide +kernel
theorem dc_J_begin_6 : decode mb_J_begin 6 = .ok (.iload_n 2, 1) := by decide +kernel
theorem dc_J_begin_7 : decode mb_J_begin 7 = .ok (.putfield 15, 3) := by decide +kernel
theorem dc_J_begin_10 : decode mb_J_begin 10 = .ok (.aload_n 0, 1) := by decide +kernel
theorem dc_J_begin_11 : decode mb_J_begin 11 = .ok (.iconst 0, 1) := by decide +kernel
theorem dc_J_begin_12 : decode mb_J_begin 12 = .ok (.putfield 19, 3) := by decide +kernel
theorem dc_J_begin_15 : decode mb_J_begin 15 = .ok (.return_, 1) := by decide +kernel
theorem dc_J_compare_0 : decode mb_J_compare 0 = .ok (.aload_n 0, 1) := by decide +kernel
theorem dc_J_compare_1 : decode mb_J_compare 1 = .ok (.dup, 1) := by decide +kernel
theorem dc_J_compare_2 : decode mb_J_compare 2 = .ok (.getfield 19, 3) := by decide +kernel
theorem dc_J_compare_5 : decode mb_J_compare 5 = .ok (.iconst 1, 1) := by decide +kernel
theorem dc_J_compare_6 : decode mb_J_compare 6 = .ok (.iadd, 1) := by decide +kernel
theorem dc_J_compare_7 : decode mb_J_compare 7 = .ok (.putfield 19, 3) := by decide +kernel
theorem dc_J_compare_10 : decode mb_J_compare 10 = .ok (.aload_n 0, 1) := by decide +kernel
theorem dc_J_compare_11 : decode mb_J_compare 11 = .ok (.getfield 9, 3) := by decide +kernel
theorem dc_J_compare_14 : decode mb_J_compare 14 = .ok (.lload_n 1, 1) := by decide +kernel
theorem dc_J_compare_15 : decode mb_J_compare 15 = .ok (.lload 4, 2) := by decide +kernel
theorem dc_J_compare_17 : decode mb_J_compare 17 = .ok (.invokestatic 22, 3) := by decide +kernel
theorem dc_J_compare_20 : decode mb_J_compare 20 = .ok (.istore 7, 2) := by decide +kernel
theorem dc_J_compare_22 : decode mb_J_compare 22 = .ok (.iload 7, 2) := by decide +kernel
theorem dc_J_compare_24 : decode mb_J_compare 24 = .ok (.ifCond .ne 10, 3) := by decide +kernel
theorem dc_J_compare_27 : decode mb_J_compare 27 = .ok (.aload_n 0, 1) := by decide +kernel
theorem dc_J_compare_28 : decode mb_J_compare 28 = .ok (.getfield 15, 3) := by decide +kernel
theorem dc_J_compare_31 : decode mb_J_compare 31 = .ok (.ifCond .ne 6, 3) := by decide +kernel
theorem dc_J_compare_34 : decode mb_J_compare 34 = .ok (.iload 7, 2) := by decide +kernel
theorem dc_J_compare_36 : decode mb_J_compare 36 = .ok (.ireturn, 1) := by decide +kernel
theorem dc_J_compare_37 : decode mb_J_compare 37 = .ok (.iload_n 3, 1) := by decide +kernel
theorem dc_J_compare_38 : decode mb_J_compare 38 = .ok (.iload 6, 2) := by decide +kernel
theorem dc_J_compare_40 : decode mb_J_compare 40 = .ok (.if_icmp .eq 12, 3) := by decide +kernel
theorem dc_J_compare_43 : decode mb_J_compare 43 = .ok (.iload_n 3, 1) := by decide +kernel
theorem dc_J_compare_44 : decode mb_J_compare 44 = .ok (.iload 6, 2) := by decide +kernel
theorem dc_J_compare_46 : decode mb_J_compare 46 = .ok (.invokestatic 26, 3) := by decide +kernel
theorem dc_J_compare_49 : decode mb_J_compare 49 = .ok (.goto 9, 3) := by decide +kernel
theorem dc_J_compare_52 : decode mb_J_compare 52 = .ok (.lload_n 1, 1) := by decide +kernel
theorem dc_J_compare_53 : decode mb_J_compare 53 = .ok (.lload 4, 2) := by decide +kernel
theorem dc_J_compare_55 : decode mb_J_compare 55 = .ok (.invokestatic 32, 3) := by decide +kernel
theorem dc_J_compare_58 : decode mb_J_compare 58 = .ok (.ireturn, 1) := by decide +kernel
theorem dc_J_before_0 : decode mb_J_before 0 = .ok (.aload_n 0, 1) := by decide +kernel
theorem dc_J_before_1 : decode mb_J_before 1 = .ok (.aload_n 1, 1) := by decide +kernel
theorem dc_J_before_2 : decode mb_J_before 2 = .ok (.getfield 37, 3) := by decide +kernel
theorem dc_J_before_5 : decode mb_J_before 5 = .ok (.iload_n 2, 1) := by decide +kernel
theorem dc_J_before_6 : decode mb_J_before 6 = .ok (.laload, 1) := by decide +kernel
theorem dc_J_before_7 : decode mb_J_before 7 = .ok (.aload_n 1, 1) := by decide +kernel
theorem dc_J_before_8 : decode mb_J_before 8 = .ok (.getfield 43, 3) := by decide +kernel
theorem dc_J_before_11 : decode mb_J_before 11 = .ok (.iload_n 2, 1) := by decide +kernel
theorem dc_J_before_12 : decode mb_J_before 12 = .ok (.iaload, 1) := by decide +kernel
theorem dc_J_before_13 : decode mb_J_before 13 = .ok (.aload_n 3, 1) := by decide +kernel
theorem dc_J_before_14 : decode mb_J_before 14 = .ok (.getfield 37, 3) := by decide +kernel
theorem dc_J_before_17 : decode mb_J_before 17 = .ok (.iload 4, 2) := by decide +kernel
theorem dc_J_before_19 : decode mb_J_before 19 = .ok (.laload, 1) := by decide +kernel
theorem dc_J_before_20 : decode mb_J_before 20 = .ok (.aload_n 3, 1) := by decide +kernel
theorem dc_J_before_21 : decode mb_J_before 21 = .ok (.getfield 43, 3) := by decide +kernel
theorem dc_J_before_24 : decode mb_J_before 24 = .ok (.iload 4, 2) := by decide +kernel
theorem dc_J_before_26 : decode mb_J_before 26 = .ok (.iaload, 1) := by decide +kernel
theorem dc_J_before_27 : decode mb_J_before 27 = .ok (.invokevirtual 47, 3) := by decide +kernel
theorem dc_J_before_30 : decode mb_J_before 30 = .ok (.ifCond .ge 7, 3) := by decide +kernel
theorem dc_J_before_33 : decode mb_J_before 33 = .ok (.iconst 1, 1) := by decide +kernel
theorem dc_J_before_34 : decode mb_J_before 34 = .ok (.goto 4, 3) := by decide +kernel
theorem dc_J_before_37 : decode mb_J_before 37 = .ok (.iconst 0, 1) := by decide +kernel
theorem dc_J_before_38 : decode mb_J_before 38 = .ok (.ireturn, 1) := by decide +kernel
theorem dc_J_drops_0 : decode mb_J_drops 0 = .ok (.aload_n 0, 1) := by decide +kernel
theorem dc_J_drops_1 : decode mb_J_drops 1 = .ok (.aload_n 1, 1) := by decide +kernel
theorem dc_J_drops_2 : decode mb_J_drops 2 = .ok (.getfield 37, 3) := by decide +kernel
theorem dc_J_drops_5 : decode mb_J_drops 5 = .ok (.iload_n 2, 1) := by decide +kernel
theorem dc_J_drops_6 : decode mb_J_drops 6 = .ok (.laload, 1) := by decide +kernel
theorem dc_J_drops_7 : decode mb_J_drops 7 = .ok (.aload_n 1, 1) := by decide +kernel
theorem dc_J_drops_8 : decode mb_J_drops 8 = .ok (.getfield 43, 3) := by decide +kernel
theorem dc_J_drops_11 : decode mb_J_drops 11 = .ok (.iload_n 2, 1) := by decide +kernel
theorem dc_J_drops_12 : decode mb_J_drops 12 = .ok (.iaload, 1) := by decide +kernel
theorem dc_J_drops_13 : decode mb_J_drops 13 = .ok (.aload_n 1, 1) := by decide +kernel
theorem dc_J_drops_14 : decode mb_J_drops 14 = .ok (.getfield 37, 3) := by decide +kernel
theorem dc_J_drops_17 : decode mb_J_drops 17 = .ok (.iload_n 2, 1) := by decide +kernel
theorem dc_J_drops_18 : decode mb_J_drops 18 = .ok (.iconst 1, 1) := by decide +kernel
theorem dc_J_drops_19 : decode mb_J_drops 19 = .ok (.isub, 1) := by decide +kernel
theorem dc_J_drops_20 : decode mb_J_drops 20 = .ok (.laload, 1) := by decide +kernel
theorem dc_J_drops_21 : decode mb_J_drops 21 = .ok (.aload_n 1, 1) := by decide +kernel
theorem dc_J_drops_22 : decode mb_J_drops 22 = .ok (.getfield 43, 3) := by decide +kernel
theorem dc_J_drops_25 : decode mb_J_drops 25 = .ok (.iload_n 2, 1) := by decide +kernel
theorem dc_J_drops_26 : decode mb_J_drops 26 = .ok (.iconst 1, 1) := by decide +kernel
theorem dc_J_drops_27 : decode mb_J_drops 27 = .ok (.isub, 1) := by decide +kernel
theorem dc_J_drops_28 : decode mb_J_drops 28 = .ok (.iaload, 1) := by decide +kernel
theorem dc_J_drops_29 : decode mb_J_drops 29 = .ok (.invokevirtual 47, 3) := by decide +kernel
theorem dc_J_drops_32 : decode mb_J_drops 32 = .ok (.ifCond .ge 7, 3) := by decide +kernel
theorem dc_J_drops_35 : decode mb_J_drops 35 = .ok (.iconst 1, 1) := by decide +kernel
theorem dc_J_drops_36 : decode mb_J_drops 36 = .ok (.goto 4, 3) := by decide +kernel
theorem dc_J_drops_39 : decode mb_J_drops 39 = .ok (.iconst 0, 1) := by decide +kernel
theorem dc_J_drops_40 : decode mb_J_drops 40 = .ok (.ireturn, 1) := by decide +kernel
theorem dc_J_falls_0 : decode mb_J_falls 0 = .ok (.iload_n 2, 1) := by decide +kernel
theorem dc_J_falls_1 : decode mb_J_falls 1 = .ok (.iconst 1, 1) := by decide +kernel
theorem dc_J_falls_2 : decode mb_J_falls 2 = .ok (.iadd, 1) := by decide +kernel
theorem dc_J_falls_3 : decode mb_J_falls 3 = .ok (.aload_n 1, 1) := by decide +kernel
theorem dc_J_falls_4 : decode mb_J_falls 4 = .ok (.getfield 50, 3) := by decide +kernel
theorem dc_J_falls_7 : decode mb_J_falls 7 = .ok (.if_icmp .ge 18, 3) := by decide +kernel
theorem dc_J_falls_10 : decode mb_J_falls 10 = .ok (.aload_n 0, 1) := by decide +kernel
theorem dc_J_falls_11 : decode mb_J_falls 11 = .ok (.aload_n 1, 1) := by decide +kernel
theorem dc_J_falls_12 : decode mb_J_falls 12 = .ok (.iload_n 2, 1) := by decide +kernel
theorem dc_J_falls_13 : decode mb_J_falls 13 = .ok (.iconst 1, 1) := by decide +kernel
theorem dc_J_falls_14 : decode mb_J_falls 14 = .ok (.iadd, 1) := by decide +kernel
theorem dc_J_falls_15 : decode mb_J_falls 15 = .ok (.invokevirtual 53, 3) := by decide +kernel
theorem dc_J_falls_18 : decode mb_J_falls 18 = .ok (.ifCond .eq 7, 3) := by decide +kernel
theorem dc_J_falls_21 : decode mb_J_falls 21 = .ok (.iconst 1, 1) := by decide +kernel
theorem dc_J_falls_22 : decode mb_J_falls 22 = .ok (.goto 4, 3) := by decide +kernel
theorem dc_J_falls_25 : decode mb_J_falls 25 = .ok (.iconst 0, 1) := by decide +kernel
theorem dc_J_falls_26 : decode mb_J_falls 26 = .ok (.ireturn, 1) := by decide +kernel
def yb (b : Bool) : Int32 := if b then 1 else 0
theorem yb_0 {b : Bool} : yb b = 0 ↔ b = false := by cases b <;> decide
theorem yb_n {b : Bool} : ¬ yb b = 0 ↔ b = true := by cases b <;> decide
theorem yb_or (b : Bool) : yb b = 0 ∨ yb b = 1 := by cases b <;> decide
theorem yb_inj {a b : Bool} : yb a = yb b ↔ a = b := by cases a <;> cases b <;> decide
/-- the judge: its order, whether by tags, how many comparisons -/
def yJ (S : YS) (od : Nat) (tg : Bool) (c : Nat) : Prop := od < 8 ∧ gF S 20 0 = nI od ∧ gF S 20 1 = yb tg ∧ gF S 20 2 = nI c
def yq (S : YS) (c : Nat) : YS := sF S 20 2 (nI c)
theorem yq_yq (S : YS) (c d : Nat) : yq (yq S c) d = yq S d := sF_sF S 20 2 _ _
theorem yq_self {S : YS} {od c : Nat} {tg : Bool} (h : yJ S od tg c) : yq S c = S := by
  refine YS_ext (fun c => rfl) (fun c => rfl) (fun c' k' => ?_)
  unfold yq
  rw [gF_sF]
  split
  · rename_i h1
    rw [h1.1, h1.2, h.2.2.2]
  · rfl
theorem yJ_yq {S : YS} {od c : Nat} {tg : Bool} (h : yJ S od tg c) (d : Nat) : yJ (yq S d) od tg d := ⟨h.1, h.2.1, h.2.2.1, rfl⟩
theorem yJ_yz {S : YS} {od c : Nat} {tg : Bool} (h : yJ S od tg c) (r : Nat) (f : Nat → Int64 × Int32) : yJ (yz S r f) od tg c := h
theorem ye_yq (S : YS) (c r : Nat) : ye (yq S c) r = ye S r := rfl
theorem gF_yq (S : YS) (c r : Nat) (h : r < 6) : gF (yq S c) (2 + r) 2 = gF S (2 + r) 2 := by
  unfold yq
  rw [gF_sF, if_neg (by omega)]
theorem zq_ne {od : Nat} {tg : Bool} {k1 k2 : Int64} {t1 t2 : Int32} (h : zr od k1 ≠ zr od k2) : zg (zr od k1) (zr od k2) = zg (zq od tg (k1, t1)) (zq od tg (k2, t2)) := by
  unfold zq
  cases tg with
  | false => rfl
  | true =>
    refine zg_eq ?_ ?_
    · show _ ↔ zf od (k1, t1) < zf od (k2, t2)
      rw [zf_lt]
      simp only
      omega
    · show _ ↔ zf od (k2, t2) < zf od (k1, t1)
      rw [zf_lt]
      simp only
      omega
theorem zq_t1 {od : Nat} {k1 k2 : Int64} {t1 t2 : Int32} (h : zr od k1 = zr od k2) (ht : t1 ≠ t2) : zg t1.toInt t2.toInt = zg (zq od true (k1, t1)) (zq od true (k2, t2)) := by
  have h3 : t1.toInt ≠ t2.toInt := fun q => ht (Int32.toInt_inj.mp q)
  refine zg_eq ?_ ?_
  · show _ ↔ zf od (k1, t1) < zf od (k2, t2)
    rw [zf_lt]
    simp only
    omega
  · show _ ↔ zf od (k2, t2) < zf od (k1, t1)
    rw [zf_lt]
    simp only
    omega
theorem zq_t2 {od : Nat} {k1 k2 : Int64} {t : Int32} (h : zr od k1 = zr od k2) : zg k1.toInt k2.toInt = zg (zq od true (k1, t)) (zq od true (k2, t)) := by
  refine zg_eq ?_ ?_
  · show _ ↔ zf od (k1, t) < zf od (k2, t)
    rw [zf_lt]
    simp [h]
  · show _ ↔ zf od (k2, t) < zf od (k1, t)
    rw [zf_lt]
    simp [h]
set_option maxHeartbeats 4000000 in
set_option maxRecDepth 100000 in
theorem ct_J_begin (l : Launch) (g : YG) (S : YS) (od : Nat) (tg : Bool) : yC l mn_J_begin mb_J_begin 3 none 0 g [.ref (g.ad (20)), .int (nI (od)), .int (yb tg)] S (fun v S' => v = none ∧ S' = sF (sF (sF S 20 0 (nI od)) 20 1 (yb tg)) 20 2 (nI 0)) := by
  refine yC_of (by decide) (Nat.le_of_ble_eq_true rfl) ?_
  intro o hl hg hB0 hE
  subst hl
  subst hg
  have hB : yB o mb_J_begin "OrderBench$Judge" := hB0
  have hm := hE.1
  show yW o (S) 0 [(0, .ref (o.G.ad (20))), (1, .int (nI (od))), (2, .int (yb tg))] []
  refine y_aload_n (pc' := 1) hB dc_J_begin_0 rfl rfl 0 rfl ?_
  refine y_iload_n (pc' := 2) hB dc_J_begin_1 rfl rfl 1 rfl ?_
  refine p_J_order (pc' := 5) hB dc_J_begin_2 rfl q_72 ?_
  refine y_aload_n (pc' := 6) hB dc_J_begin_5 rfl rfl 0 rfl ?_
  refine y_iload_n (pc' := 7) hB dc_J_begin_6 rfl rfl 2 rfl ?_
  refine p_J_byTags (pc' := 10) hB dc_J_begin_7 rfl (yb_or tg) q_73 ?_
  refine y_aload_n (pc' := 11) hB dc_J_begin_10 rfl rfl 0 rfl ?_
  refine y_iconst (v := nI 0) (pc' := 12) hB dc_J_begin_11 rfl rfl ?_
  refine p_J_compared (pc' := 15) hB dc_J_begin_12 rfl q_74 ?_
  exact y_vret hB hE dc_J_begin_15 ⟨rfl, rfl⟩
theorem yJ_begin (S : YS) (od : Nat) (tg : Bool) (h : od < 8) : yJ (sF (sF (sF S 20 0 (nI od)) 20 1 (yb tg)) 20 2 (nI 0)) od tg 0 := ⟨h, rfl, rfl, rfl⟩
set_option maxHeartbeats 4000000 in
set_option maxRecDepth 100000 in
theorem ct_J_compare (l : Launch) (g : YG) (S : YS) (od : Nat) (tg : Bool) (c : Nat) (hJ : yJ S od tg c) (k1 : Int64) (t1 : Int32) (k2 : Int64) (t2 : Int32) : yC l mn_J_compare mb_J_compare 8 (some .int) 2 g [.ref (g.ad (20)), .long (k1), .int (t1), .long (k2), .int (t2)] S (fun v S' => v = some (.int (zg (zq od tg (k1, t1)) (zq od tg (k2, t2)))) ∧ S' = yq S (c + 1)) := by
  refine yC_of (by decide) (Nat.le_of_ble_eq_true rfl) ?_
  intro o hl hg hB0 hE
  subst hl
  subst hg
  have hB : yB o mb_J_compare "OrderBench$Judge" := hB0
  have hm := hE.1
  show yW o (S) 0 [(0, .ref (o.G.ad (20))), (1, .long (k1)), (3, .int (t1)), (4, .long (k2)), (6, .int (t2))] []
  refine y_aload_n (pc' := 1) hB dc_J_compare_0 rfl rfl 0 rfl ?_
  refine y_dup (pc' := 2) hB dc_J_compare_1 rfl rfl ?_
  refine f_J_compared (pc' := 5) hB dc_J_compare_2 rfl q_74 ?_
  refine y_topi (y := nI (c)) hJ.2.2.2 ?_
  refine y_iconst (v := nI 1) (pc' := 6) hB dc_J_compare_5 rfl rfl ?_
  refine n_iadd (x := c) (y := 1) (pc' := 7) hB dc_J_compare_6 rfl ?_
  refine p_J_compared (pc' := 10) hB dc_J_compare_7 rfl q_74 ?_
  refine y_aload_n (pc' := 11) hB dc_J_compare_10 rfl rfl 0 rfl ?_
  refine f_J_order (pc' := 14) hB dc_J_compare_11 rfl q_72 ?_
  refine y_topi (y := nI (od)) hJ.2.1 ?_
  refine y_lload_n (pc' := 15) hB dc_J_compare_14 rfl rfl 1 rfl ?_
  refine y_lload (pc' := 17) hB dc_J_compare_15 rfl 3 rfl ?_
  refine y_callS (As := [.int (nI (od)), .long (k1), .long (k2)]) (rest := []) (pc' := 20) hB hE (ct_J_compareKeys o.l o.G _ od hJ.1 k1 k2) mm_J_compareKeys q_379 q_380 dc_J_compare_17 rfl (by decide) rfl rfl (by decide) (fun v S' hpost => ?_)
  obtain ⟨rfl, hSS⟩ := hpost
  rw [hSS]
  clear hSS S'
  show yW o (sF (S) 20 2 (nI (c + 1))) 20 [(0, .ref (o.G.ad (20))), (1, .long (k1)), (3, .int (t1)), (4, .long (k2)), (6, .int (t2))] [.int (zg (zr od k1) (zr od k2))]
  refine y_istore (pc' := 22) (lv' := [(7, .int (zg (zr od k1) (zr od k2))), (0, .ref (o.G.ad (20))), (1, .long (k1)), (3, .int (t1)), (4, .long (k2)), (6, .int (t2))]) hB hm dc_J_compare_20 rfl (by decide) rfl ?_
  refine y_iload (pc' := 24) hB dc_J_compare_22 rfl 0 rfl ?_
  refine y_if_ne (x := zg (zr od k1) (zr od k2)) (pc' := 27) (tg := 34) hB dc_J_compare_24 rfl rfl (fun h => ?_) (fun h => ?_)
  · rw [zg_0] at h
    refine y_iload (pc' := 36) hB dc_J_compare_34 rfl 0 rfl ?_
    exact y_iret hB hE dc_J_compare_36 ⟨congrArg (fun z => some (Value.int z)) (zq_ne h), rfl⟩
  · rw [zg_0] at h
    refine y_aload_n (pc' := 28) hB dc_J_compare_27 rfl rfl 1 rfl ?_
    refine f_J_byTags (pc' := 31) hB dc_J_compare_28 rfl q_73 ?_
    refine y_topi (y := yb tg) hJ.2.2.1 ?_
    refine y_if_ne (x := yb tg) (pc' := 34) (tg := 37) hB dc_J_compare_31 rfl rfl (fun h2 => ?_) (fun h2 => ?_)
    · rw [yb_n] at h2
      subst h2
      refine y_iload_n (pc' := 38) hB dc_J_compare_37 rfl rfl 3 rfl ?_
      refine y_iload (pc' := 40) hB dc_J_compare_38 rfl 5 rfl ?_
      refine y_icmp_eq (x := t1) (y := t2) (pc' := 43) (tg := 52) hB dc_J_compare_40 rfl rfl (fun h3 => ?_) (fun h3 => ?_)
      · subst h3
        show yW o (sF (S) 20 2 (nI (c + 1))) 52 [(7, .int (zg (zr od k1) (zr od k2))), (0, .ref (o.G.ad (20))), (1, .long (k1)), (3, .int (t1)), (4, .long (k2)), (6, .int (t1))] []
        refine y_lload_n (pc' := 53) hB dc_J_compare_52 rfl rfl 2 rfl ?_
        refine y_lload (pc' := 55) hB dc_J_compare_53 rfl 4 rfl ?_
        refine y_callS (As := [.long (k1), .long (k2)]) (rest := []) (pc' := 58) hB hE (ct_jL_compare o.l o.G _ k1 k2) mm_jL_compare q_393 q_394 dc_J_compare_55 rfl (by decide) rfl rfl (by decide) (fun v S' hpost => ?_)
        obtain ⟨rfl, hSS⟩ := hpost
        rw [hSS]
        clear hSS S'
        show yW o (sF (S) 20 2 (nI (c + 1))) 58 [(7, .int (zg (zr od k1) (zr od k2))), (0, .ref (o.G.ad (20))), (1, .long (k1)), (3, .int (t1)), (4, .long (k2)), (6, .int (t1))] [.int (zg k1.toInt k2.toInt)]
        exact y_iret hB hE dc_J_compare_58 ⟨congrArg (fun z => some (Value.int z)) (zq_t2 h), rfl⟩
      · refine y_iload_n (pc' := 44) hB dc_J_compare_43 rfl rfl 3 rfl ?_
        refine y_iload (pc' := 46) hB dc_J_compare_44 rfl 5 rfl ?_
        refine y_callS (As := [.int (t1), .int (t2)]) (rest := []) (pc' := 49) hB hE (ct_jI_compare o.l o.G _ t1 t2) mm_jI_compare q_390 q_391 dc_J_compare_46 rfl (by decide) rfl rfl (by decide) (fun v S' hpost => ?_)
        obtain ⟨rfl, hSS⟩ := hpost
        rw [hSS]
        clear hSS S'
        show yW o (sF (S) 20 2 (nI (c + 1))) 49 [(7, .int (zg (zr od k1) (zr od k2))), (0, .ref (o.G.ad (20))), (1, .long (k1)), (3, .int (t1)), (4, .long (k2)), (6, .int (t2))] [.int (zg t1.toInt t2.toInt)]
        refine y_goto (tg := 58) hB dc_J_compare_49 rfl ?_
        exact y_iret hB hE dc_J_compare_58 ⟨congrArg (fun z => some (Value.int z)) (zq_t1 h h3), rfl⟩
    · rw [yb_0] at h2
      subst h2
      refine y_iload (pc' := 36) hB dc_J_compare_34 rfl 0 rfl ?_
      exact y_iret hB hE dc_J_compare_36 ⟨rfl, rfl⟩
set_option maxHeartbeats 4000000 in
set_option maxRecDepth 100000 in
theorem ct_J_before (l : Launch) (g : YG) (S : YS) (od : Nat) (tg : Bool) (c : Nat) (hJ : yJ S od tg c) (r : Nat) (hr : r < 6) (q : Nat) (hq : q < 6) (i j : Nat) (hi : i < 1024) (hj : j < 1024) : yC l mn_J_before mb_J_before 5 (some .boolean) 3 g [.ref (g.ad (20)), .ref (g.ad (2 + r)), .int (nI (i)), .ref (g.ad (2 + q)), .int (nI (j))] S (fun v S' => v = some (.int (yb (decide (zq od tg (ye S r i) < zq od tg (ye S q j))))) ∧ S' = yq S (c + 1)) := by
  refine yC_of (by decide) (Nat.le_of_ble_eq_true rfl) ?_
  intro o hl hg hB0 hE
  subst hl
  subst hg
  have hB : yB o mb_J_before "OrderBench$Judge" := hB0
  have hm := hE.1
  show yW o (S) 0 [(0, .ref (o.G.ad (20))), (1, .ref (o.G.ad (2 + r))), (2, .int (nI (i))), (3, .ref (o.G.ad (2 + q))), (4, .int (nI (j)))] []
  refine y_aload_n (pc' := 1) hB dc_J_before_0 rfl rfl 0 rfl ?_
  refine y_aload_n (pc' := 2) hB dc_J_before_1 rfl rfl 1 rfl ?_
  refine f_keys (r := r) (pc' := 5) hB dc_J_before_2 rfl (by omega) q_41 ?_
  refine y_iload_n (pc' := 6) hB dc_J_before_5 rfl rfl 2 rfl ?_
  refine y_lald (c := 8 + r) (n := 1024) (j := i) (pc' := 7) hB dc_J_before_6 rfl (by unfold yN; omega) (yk_row (by omega)).2.1 (by omega) (by decide) ?_
  refine y_aload_n (pc' := 8) hB dc_J_before_7 rfl rfl 1 rfl ?_
  refine f_tags (r := r) (pc' := 11) hB dc_J_before_8 rfl (by omega) q_47 ?_
  refine y_iload_n (pc' := 12) hB dc_J_before_11 rfl rfl 2 rfl ?_
  refine y_iald (c := 14 + r) (n := 1024) (j := i) (pc' := 13) hB dc_J_before_12 rfl (by unfold yN; omega) (yk_row (by omega)).2.2 (by omega) (by decide) ?_
  refine y_aload_n (pc' := 14) hB dc_J_before_13 rfl rfl 3 rfl ?_
  refine f_keys (r := q) (pc' := 17) hB dc_J_before_14 rfl (by omega) q_41 ?_
  refine y_iload (pc' := 19) hB dc_J_before_17 rfl 4 rfl ?_
  refine y_lald (c := 8 + q) (n := 1024) (j := j) (pc' := 20) hB dc_J_before_19 rfl (by unfold yN; omega) (yk_row (by omega)).2.1 (by omega) (by decide) ?_
  refine y_aload_n (pc' := 21) hB dc_J_before_20 rfl rfl 3 rfl ?_
  refine f_tags (r := q) (pc' := 24) hB dc_J_before_21 rfl (by omega) q_47 ?_
  refine y_iload (pc' := 26) hB dc_J_before_24 rfl 4 rfl ?_
  refine y_iald (c := 14 + q) (n := 1024) (j := j) (pc' := 27) hB dc_J_before_26 rfl (by unfold yN; omega) (yk_row (by omega)).2.2 (by omega) (by decide) ?_
  refine y_callV (c := 20) (ci := 2) (As := [.long (gL (S) (8 + r) (i)), .int (gI (S) (14 + r) (i)), .long (gL (S) (8 + q) (j)), .int (gI (S) (14 + q) (j))]) (rest := []) (pc' := 30) hB hE (ct_J_compare o.l o.G _ od tg c hJ _ _ _ _) mm_J_compare q_375 q_376 q_377 (by decide) rfl rfl dc_J_before_27 rfl (by decide) rfl rfl (by decide) (fun v S' hpost => ?_)
  obtain ⟨rfl, hSS⟩ := hpost
  rw [hSS]
  clear hSS S'
  show yW o (yq (S) (c + 1)) 30 [(0, .ref (o.G.ad (20))), (1, .ref (o.G.ad (2 + r))), (2, .int (nI (i))), (3, .ref (o.G.ad (2 + q))), (4, .int (nI (j)))] [.int (zg (zq od tg (ye S r i)) (zq od tg (ye S q j)))]
  refine y_if_ge (x := zg (zq od tg (ye S r i)) (zq od tg (ye S q j))) (pc' := 33) (tg := 37) hB dc_J_before_30 rfl rfl (fun h => ?_) (fun h => ?_)
  · rw [zg_ge] at h
    refine y_iconst (v := nI 0) (pc' := 38) hB dc_J_before_37 rfl rfl ?_
    refine y_zret hB hE dc_J_before_38 (Or.inl rfl) ⟨?_, rfl⟩
    rw [decide_eq_false (by omega)]
    rfl
  · rw [zg_ge] at h
    refine y_iconst (v := nI 1) (pc' := 34) hB dc_J_before_33 rfl rfl ?_
    refine y_goto (tg := 38) hB dc_J_before_34 rfl ?_
    refine y_zret hB hE dc_J_before_38 (Or.inr rfl) ⟨?_, rfl⟩
    rw [decide_eq_true (by omega)]
    rfl
set_option maxHeartbeats 4000000 in
set_option maxRecDepth 100000 in
theorem ct_J_drops (l : Launch) (g : YG) (S : YS) (od : Nat) (tg : Bool) (c : Nat) (hJ : yJ S od tg c) (r : Nat) (hr : r < 6) (i : Nat) (h1 : 1 ≤ i) (hi : i < 1024) : yC l mn_J_drops mb_J_drops 3 (some .boolean) 3 g [.ref (g.ad (20)), .ref (g.ad (2 + r)), .int (nI (i))] S (fun v S' => v = some (.int (yb (decide (zq od tg (ye S r i) < zq od tg (ye S r (i - 1)))))) ∧ S' = yq S (c + 1)) := by
  refine yC_of (by decide) (Nat.le_of_ble_eq_true rfl) ?_
  intro o hl hg hB0 hE
  subst hl
  subst hg
  have hB : yB o mb_J_drops "OrderBench$Judge" := hB0
  have hm := hE.1
  show yW o (S) 0 [(0, .ref (o.G.ad (20))), (1, .ref (o.G.ad (2 + r))), (2, .int (nI (i)))] []
  refine y_aload_n (pc' := 1) hB dc_J_drops_0 rfl rfl 0 rfl ?_
  refine y_aload_n (pc' := 2) hB dc_J_drops_1 rfl rfl 1 rfl ?_
  refine f_keys (r := r) (pc' := 5) hB dc_J_drops_2 rfl (by omega) q_41 ?_
  refine y_iload_n (pc' := 6) hB dc_J_drops_5 rfl rfl 2 rfl ?_
  refine y_lald (c := 8 + r) (n := 1024) (j := i) (pc' := 7) hB dc_J_drops_6 rfl (by unfold yN; omega) (yk_row (by omega)).2.1 (by omega) (by decide) ?_
  refine y_aload_n (pc' := 8) hB dc_J_drops_7 rfl rfl 1 rfl ?_
  refine f_tags (r := r) (pc' := 11) hB dc_J_drops_8 rfl (by omega) q_47 ?_
  refine y_iload_n (pc' := 12) hB dc_J_drops_11 rfl rfl 2 rfl ?_
  refine y_iald (c := 14 + r) (n := 1024) (j := i) (pc' := 13) hB dc_J_drops_12 rfl (by unfold yN; omega) (yk_row (by omega)).2.2 (by omega) (by decide) ?_
  refine y_aload_n (pc' := 14) hB dc_J_drops_13 rfl rfl 1 rfl ?_
  refine f_keys (r := r) (pc' := 17) hB dc_J_drops_14 rfl (by omega) q_41 ?_
  refine y_iload_n (pc' := 18) hB dc_J_drops_17 rfl rfl 2 rfl ?_
  refine y_iconst (v := nI 1) (pc' := 19) hB dc_J_drops_18 rfl rfl ?_
  refine n_isub (x := i) (y := 1) (pc' := 20) hB dc_J_drops_19 rfl (by omega) ?_
  refine y_lald (c := 8 + r) (n := 1024) (j := i - 1) (pc' := 21) hB dc_J_drops_20 rfl (by unfold yN; omega) (yk_row (by omega)).2.1 (by omega) (by decide) ?_
  refine y_aload_n (pc' := 22) hB dc_J_drops_21 rfl rfl 1 rfl ?_
  refine f_tags (r := r) (pc' := 25) hB dc_J_drops_22 rfl (by omega) q_47 ?_
  refine y_iload_n (pc' := 26) hB dc_J_drops_25 rfl rfl 2 rfl ?_
  refine y_iconst (v := nI 1) (pc' := 27) hB dc_J_drops_26 rfl rfl ?_
  refine n_isub (x := i) (y := 1) (pc' := 28) hB dc_J_drops_27 rfl (by omega) ?_
  refine y_iald (c := 14 + r) (n := 1024) (j := i - 1) (pc' := 29) hB dc_J_drops_28 rfl (by unfold yN; omega) (yk_row (by omega)).2.2 (by omega) (by decide) ?_
  refine y_callV (c := 20) (ci := 2) (As := [.long (gL (S) (8 + r) (i)), .int (gI (S) (14 + r) (i)), .long (gL (S) (8 + r) (i - 1)), .int (gI (S) (14 + r) (i - 1))]) (rest := []) (pc' := 32) hB hE (ct_J_compare o.l o.G _ od tg c hJ _ _ _ _) mm_J_compare q_375 q_376 q_377 (by decide) rfl rfl dc_J_drops_29 rfl (by decide) rfl rfl (by decide) (fun v S' hpost => ?_)
  obtain ⟨rfl, hSS⟩ := hpost
  rw [hSS]
  clear hSS S'
  show yW o (yq (S) (c + 1)) 32 [(0, .ref (o.G.ad (20))), (1, .ref (o.G.ad (2 + r))), (2, .int (nI (i)))] [.int (zg (zq od tg (ye S r i)) (zq od tg (ye S r (i - 1))))]
  refine y_if_ge (x := zg (zq od tg (ye S r i)) (zq od tg (ye S r (i - 1)))) (pc' := 35) (tg := 39) hB dc_J_drops_32 rfl rfl (fun h => ?_) (fun h => ?_)
  · rw [zg_ge] at h
    refine y_iconst (v := nI 0) (pc' := 40) hB dc_J_drops_39 rfl rfl ?_
    refine y_zret hB hE dc_J_drops_40 (Or.inl rfl) ⟨?_, rfl⟩
    rw [decide_eq_false (by omega)]
    rfl
  · rw [zg_ge] at h
    refine y_iconst (v := nI 1) (pc' := 36) hB dc_J_drops_35 rfl rfl ?_
    refine y_goto (tg := 40) hB dc_J_drops_36 rfl ?_
    refine y_zret hB hE dc_J_drops_40 (Or.inr rfl) ⟨?_, rfl⟩
    rw [decide_eq_true (by omega)]
    rfl
set_option maxHeartbeats 4000000 in
set_option maxRecDepth 100000 in
theorem ct_J_falls (l : Launch) (g : YG) (S : YS) (od : Nat) (tg : Bool) (c : Nat) (hJ : yJ S od tg c) (r : Nat) (hr : r < 6) (n : Nat) (hn : n ≤ 1024) (hc : gF S (2 + r) 2 = nI n) (i : Nat) (hi : i < 1024) : yC l mn_J_falls mb_J_falls 3 (some .boolean) 4 g [.ref (g.ad (20)), .ref (g.ad (2 + r)), .int (nI (i))] S (fun v S' => ∃ c', v = some (.int (yb (decide (i + 1 < n ∧ zq od tg (ye S r (i + 1)) < zq od tg (ye S r i))))) ∧ S' = yq S c' ∧ c' ≤ c + 1) := by
  refine yC_of (by decide) (Nat.le_of_ble_eq_true rfl) ?_
  intro o hl hg hB0 hE
  subst hl
  subst hg
  have hB : yB o mb_J_falls "OrderBench$Judge" := hB0
  have hm := hE.1
  show yW o (S) 0 [(0, .ref (o.G.ad (20))), (1, .ref (o.G.ad (2 + r))), (2, .int (nI (i)))] []
  refine y_iload_n (pc' := 1) hB dc_J_falls_0 rfl rfl 2 rfl ?_
  refine y_iconst (v := nI 1) (pc' := 2) hB dc_J_falls_1 rfl rfl ?_
  refine n_iadd (x := i) (y := 1) (pc' := 3) hB dc_J_falls_2 rfl ?_
  refine y_aload_n (pc' := 4) hB dc_J_falls_3 rfl rfl 1 rfl ?_
  refine f_count (r := r) (pc' := 7) hB dc_J_falls_4 rfl (by omega) q_56 ?_
  refine y_topi (y := nI (n)) hc ?_
  refine n_icmp_ge (pc' := 10) (tg := 25) hB dc_J_falls_7 rfl rfl (by omega) (by omega) (fun h => ?_) (fun h => ?_)
  · refine y_iconst (v := nI 0) (pc' := 26) hB dc_J_falls_25 rfl rfl ?_
    refine y_zret hB hE dc_J_falls_26 (Or.inl rfl) ⟨c, ?_, (yq_self hJ).symm, by omega⟩
    rw [decide_eq_false (fun q => by omega)]
    rfl
  · refine y_aload_n (pc' := 11) hB dc_J_falls_10 rfl rfl 0 rfl ?_
    refine y_aload_n (pc' := 12) hB dc_J_falls_11 rfl rfl 1 rfl ?_
    refine y_iload_n (pc' := 13) hB dc_J_falls_12 rfl rfl 2 rfl ?_
    refine y_iconst (v := nI 1) (pc' := 14) hB dc_J_falls_13 rfl rfl ?_
    refine n_iadd (x := i) (y := 1) (pc' := 15) hB dc_J_falls_14 rfl ?_
    refine y_callV (c := 20) (ci := 2) (As := [.ref (o.G.ad (2 + r)), .int (nI (i + 1))]) (rest := []) (pc' := 18) hB hE (ct_J_drops o.l o.G S od tg c hJ r hr (i + 1) (by omega) (by omega)) mm_J_drops q_466 q_467 q_468 (by decide) rfl rfl dc_J_falls_15 rfl (by decide) rfl rfl (by decide) (fun v S' hpost => ?_)
    obtain ⟨rfl, hSS⟩ := hpost
    rw [hSS]
    clear hSS S'
    show yW o (yq S (c + 1)) 18 [(0, .ref (o.G.ad (20))), (1, .ref (o.G.ad (2 + r))), (2, .int (nI (i)))] [.int (yb (decide (zq od tg (ye S r (i + 1)) < zq od tg (ye S r (i + 1 - 1)))))]
    refine y_if_eq (x := yb (decide (zq od tg (ye S r (i + 1)) < zq od tg (ye S r (i + 1 - 1))))) (pc' := 21) (tg := 25) hB dc_J_falls_18 rfl rfl (fun h2 => ?_) (fun h2 => ?_)
    · rw [yb_0, decide_eq_false_iff_not, Nat.add_sub_cancel] at h2
      refine y_iconst (v := nI 0) (pc' := 26) hB dc_J_falls_25 rfl rfl ?_
      refine y_zret hB hE dc_J_falls_26 (Or.inl rfl) ⟨c + 1, ?_, rfl, by omega⟩
      rw [decide_eq_false (fun q => h2 q.2)]
      rfl
    · rw [yb_n, decide_eq_true_eq, Nat.add_sub_cancel] at h2
      refine y_iconst (v := nI 1) (pc' := 22) hB dc_J_falls_21 rfl rfl ?_
      refine y_goto (tg := 26) hB dc_J_falls_22 rfl ?_
      refine y_zret hB hE dc_J_falls_26 (Or.inr rfl) ⟨c + 1, ?_, rfl, by omega⟩
      rw [decide_eq_true ⟨h, h2⟩]
      rfl
