/-! BENCH: fill -/
theorem dc_B_changeNeighbours_0 : decode mb_B_changeNeighbours 0 = .ok (.iload_n 1, 1) := by decide +kernel
theorem dc_B_changeNeighbours_1 : decode mb_B_changeNeighbours 1 = .ok (.ifCond .gt 4, 3) := by decide +kernel
theorem dc_B_changeNeighbours_4 : decode mb_B_changeNeighbours 4 = .ok (.return_, 1) := by decide +kernel
theorem dc_B_changeNeighbours_5 : decode mb_B_changeNeighbours 5 = .ok (.iload_n 1, 1) := by decide +kernel
theorem dc_B_changeNeighbours_6 : decode mb_B_changeNeighbours 6 = .ok (.istore_n 2, 1) := by decide +kernel
theorem dc_B_changeNeighbours_7 : decode mb_B_changeNeighbours 7 = .ok (.iload_n 2, 1) := by decide +kernel
theorem dc_B_changeNeighbours_8 : decode mb_B_changeNeighbours 8 = .ok (.aload_n 0, 1) := by decide +kernel
theorem dc_B_changeNeighbours_9 : decode mb_B_changeNeighbours 9 = .ok (.getfield 53, 3) := by decide +kernel
theorem dc_B_changeNeighbours_12 : decode mb_B_changeNeighbours 12 = .ok (.iconst 1, 1) := by decide +kernel
theorem dc_B_changeNeighbours_13 : decode mb_B_changeNeighbours 13 = .ok (.isub, 1) := by decide +kernel
theorem dc_B_changeNeighbours_14 : decode mb_B_changeNeighbours 14 = .ok (.if_icmp .ge 40, 3) := by decide +kernel
theorem dc_B_changeNeighbours_17 : decode mb_B_changeNeighbours 17 = .ok (.aload_n 0, 1) := by decide +kernel
theorem dc_B_changeNeighbours_18 : decode mb_B_changeNeighbours 18 = .ok (.getfield 78, 3) := by decide +kernel
theorem dc_B_changeNeighbours_21 : decode mb_B_changeNeighbours 21 = .ok (.iload_n 2, 1) := by decide +kernel
theorem dc_B_changeNeighbours_22 : decode mb_B_changeNeighbours 22 = .ok (.laload, 1) := by decide +kernel
theorem dc_B_changeNeighbours_23 : decode mb_B_changeNeighbours 23 = .ok (.lstore_n 3, 1) := by decide +kernel
theorem dc_B_changeNeighbours_24 : decode mb_B_changeNeighbours 24 = .ok (.aload_n 0, 1) := by decide +kernel
theorem dc_B_changeNeighbours_25 : decode mb_B_changeNeighbours 25 = .ok (.getfield 78, 3) := by decide +kernel
theorem dc_B_changeNeighbours_28 : decode mb_B_changeNeighbours 28 = .ok (.iload_n 2, 1) := by decide +kernel
theorem dc_B_changeNeighbours_29 : decode mb_B_changeNeighbours 29 = .ok (.aload_n 0, 1) := by decide +kernel
theorem dc_B_changeNeighbours_30 : decode mb_B_changeNeighbours 30 = .ok (.getfield 78, 3) := by decide +kernel
theorem dc_B_changeNeighbours_33 : decode mb_B_changeNeighbours 33 = .ok (.iload_n 2, 1) := by decide +kernel
theorem dc_B_changeNeighbours_34 : decode mb_B_changeNeighbours 34 = .ok (.iconst 1, 1) := by decide +kernel
theorem dc_B_changeNeighbours_35 : decode mb_B_changeNeighbours 35 = .ok (.iadd, 1) := by decide +kernel
theorem dc_B_changeNeighbours_36 : decode mb_B_changeNeighbours 36 = .ok (.laload, 1) := by decide +kernel
theorem dc_B_changeNeighbours_37 : decode mb_B_changeNeighbours 37 = .ok (.lastore, 1) := by decide +kernel
theorem dc_B_changeNeighbours_38 : decode mb_B_changeNeighbours 38 = .ok (.aload_n 0, 1) := by decide +kernel
theorem dc_B_changeNeighbours_39 : decode mb_B_changeNeighbours 39 = .ok (.getfield 78, 3) := by decide +kernel
theorem dc_B_changeNeighbours_42 : decode mb_B_changeNeighbours 42 = .ok (.iload_n 2, 1) := by decide +kernel
theorem dc_B_changeNeighbours_43 : decode mb_B_changeNeighbours 43 = .ok (.iconst 1, 1) := by decide +kernel
theorem dc_B_changeNeighbours_44 : decode mb_B_changeNeighbours 44 = .ok (.iadd, 1) := by decide +kernel
theorem dc_B_changeNeighbours_45 : decode mb_B_changeNeighbours 45 = .ok (.lload_n 3, 1) := by decide +kernel
theorem dc_B_changeNeighbours_46 : decode mb_B_changeNeighbours 46 = .ok (.lastore, 1) := by decide +kernel
theorem dc_B_changeNeighbours_47 : decode mb_B_changeNeighbours 47 = .ok (.iload_n 2, 1) := by decide +kernel
theorem dc_B_changeNeighbours_48 : decode mb_B_changeNeighbours 48 = .ok (.iload_n 1, 1) := by decide +kernel
theorem dc_B_changeNeighbours_49 : decode mb_B_changeNeighbours 49 = .ok (.iadd, 1) := by decide +kernel
theorem dc_B_changeNeighbours_50 : decode mb_B_changeNeighbours 50 = .ok (.istore_n 2, 1) := by decide +kernel
theorem dc_B_changeNeighbours_51 : decode mb_B_changeNeighbours 51 = .ok (.goto (-44), 3) := by decide +kernel
theorem dc_B_changeNeighbours_54 : decode mb_B_changeNeighbours 54 = .ok (.return_, 1) := by decide +kernel
theorem dc_B_fill_0 : decode mb_B_fill 0 = .ok (.aload_n 0, 1) := by decide +kernel
theorem dc_B_fill_1 : decode mb_B_fill 1 = .ok (.iload_n 1, 1) := by decide +kernel
theorem dc_B_fill_2 : decode mb_B_fill 2 = .ok (.invokevirtual 49, 3) := by decide +kernel
theorem dc_B_fill_5 : decode mb_B_fill 5 = .ok (.astore 7, 2) := by decide +kernel
theorem dc_B_fill_7 : decode mb_B_fill 7 = .ok (.iload_n 2, 1) := by decide +kernel
theorem dc_B_fill_8 : decode mb_B_fill 8 = .ok (.ifCond .lt 10, 3) := by decide +kernel
theorem dc_B_fill_11 : decode mb_B_fill 11 = .ok (.iload_n 2, 1) := by decide +kernel
theorem dc_B_fill_12 : decode mb_B_fill 12 = .ok (.sipush 1024, 3) := by decide +kernel
theorem dc_B_fill_15 : decode mb_B_fill 15 = .ok (.if_icmp .le 13, 3) := by decide +kernel
theorem dc_B_fill_18 : decode mb_B_fill 18 = .ok (.new 68, 3) := by decide +kernel
theorem dc_B_fill_21 : decode mb_B_fill 21 = .ok (.dup, 1) := by decide +kernel
theorem dc_B_fill_22 : decode mb_B_fill 22 = .ok (.ldc 70, 2) := by decide +kernel
theorem dc_B_fill_24 : decode mb_B_fill 24 = .ok (.invokespecial 72, 3) := by decide +kernel
theorem dc_B_fill_27 : decode mb_B_fill 27 = .ok (.athrow, 1) := by decide +kernel
theorem dc_B_fill_28 : decode mb_B_fill 28 = .ok (.iload_n 3, 1) := by decide +kernel
theorem dc_B_fill_29 : decode mb_B_fill 29 = .ok (.ifCond .lt 8, 3) := by decide +kernel
theorem dc_B_fill_32 : decode mb_B_fill 32 = .ok (.iload_n 3, 1) := by decide +kernel
theorem dc_B_fill_33 : decode mb_B_fill 33 = .ok (.iconst 5, 1) := by decide +kernel
theorem dc_B_fill_34 : decode mb_B_fill 34 = .ok (.if_icmp .le 13, 3) := by decide +kernel
theorem dc_B_fill_37 : decode mb_B_fill 37 = .ok (.new 68, 3) := by decide +kernel
theorem dc_B_fill_40 : decode mb_B_fill 40 = .ok (.dup, 1) := by decide +kernel
theorem dc_B_fill_41 : decode mb_B_fill 41 = .ok (.ldc 73, 2) := by decide +kernel
theorem dc_B_fill_43 : decode mb_B_fill 43 = .ok (.invokespecial 72, 3) := by decide +kernel
theorem dc_B_fill_46 : decode mb_B_fill 46 = .ok (.athrow, 1) := by decide +kernel
theorem dc_B_fill_47 : decode mb_B_fill 47 = .ok (.aload 7, 2) := by decide +kernel
theorem dc_B_fill_49 : decode mb_B_fill 49 = .ok (.iload_n 2, 1) := by decide +kernel
theorem dc_B_fill_50 : decode mb_B_fill 50 = .ok (.putfield 53, 3) := by decide +kernel
theorem dc_B_fill_53 : decode mb_B_fill 53 = .ok (.aload 7, 2) := by decide +kernel
theorem dc_B_fill_55 : decode mb_B_fill 55 = .ok (.invokevirtual 75, 3) := by decide +kernel
theorem dc_B_fill_58 : decode mb_B_fill 58 = .ok (.iconst 0, 1) := by decide +kernel
theorem dc_B_fill_59 : decode mb_B_fill 59 = .ok (.istore 8, 2) := by decide +kernel
theorem dc_B_fill_61 : decode mb_B_fill 61 = .ok (.iload 8, 2) := by decide +kernel
theorem dc_B_fill_63 : decode mb_B_fill 63 = .ok (.iload_n 2, 1) := by decide +kernel
theorem dc_B_fill_64 : decode mb_B_fill 64 = .ok (.if_icmp .ge 28, 3) := by decide +kernel
theorem dc_B_fill_67 : decode mb_B_fill 67 = .ok (.aload 7, 2) := by decide +kernel
theorem dc_B_fill_69 : decode mb_B_fill 69 = .ok (.getfield 78, 3) := by decide +kernel
theorem dc_B_fill_72 : decode mb_B_fill 72 = .ok (.iload 8, 2) := by decide +kernel
theorem dc_B_fill_74 : decode mb_B_fill 74 = .ok (.iload_n 3, 1) := by decide +kernel
theorem dc_B_fill_75 : decode mb_B_fill 75 = .ok (.iload_n 2, 1) := by decide +kernel
theorem dc_B_fill_76 : decode mb_B_fill 76 = .ok (.iload 8, 2) := by decide +kernel
theorem dc_B_fill_78 : decode mb_B_fill 78 = .ok (.lload 4, 2) := by decide +kernel
theorem dc_B_fill_80 : decode mb_B_fill 80 = .ok (.iload 6, 2) := by decide +kernel
theorem dc_B_fill_82 : decode mb_B_fill 82 = .ok (.invokestatic 82, 3) := by decide +kernel
theorem dc_B_fill_85 : decode mb_B_fill 85 = .ok (.lastore, 1) := by decide +kernel
theorem dc_B_fill_86 : decode mb_B_fill 86 = .ok (.iinc 8 1, 3) := by decide +kernel
theorem dc_B_fill_89 : decode mb_B_fill 89 = .ok (.goto (-28), 3) := by decide +kernel
theorem dc_B_fill_92 : decode mb_B_fill 92 = .ok (.iload_n 3, 1) := by decide +kernel
theorem dc_B_fill_93 : decode mb_B_fill 93 = .ok (.iconst 5, 1) := by decide +kernel
theorem dc_B_fill_94 : decode mb_B_fill 94 = .ok (.if_icmp .ne 10, 3) := by decide +kernel
theorem dc_B_fill_97 : decode mb_B_fill 97 = .ok (.aload 7, 2) := by decide +kernel
theorem dc_B_fill_99 : decode mb_B_fill 99 = .ok (.iload 6, 2) := by decide +kernel
theorem dc_B_fill_101 : decode mb_B_fill 101 = .ok (.invokestatic 86, 3) := by decide +kernel
theorem dc_B_fill_104 : decode mb_B_fill 104 = .ok (.return_, 1) := by decide +kernel
theorem sL_sL (S : YS) (c : Nat) (f g : Nat → Int64) : sL (sL S c f) c g = sL S c g := by
  refine YS_ext (fun c' => ?_) (fun c => rfl) (fun c k => rfl)
  simp only [gL_sL]
  split <;> rfl
theorem gL_same (S : YS) (c : Nat) (f : Nat → Int64) : gL (sL S c f) c = f := by rw [gL_sL, if_pos rfl]
theorem gL_yz (S : YS) (r : Nat) (f : Nat → Int64 × Int32) : gL (yz S r f) (8 + r) = fun j => (f j).1 := by
  unfold yz
  rw [gL_sI, gL_same]
theorem sL_yz (S : YS) (r : Nat) (f : Nat → Int64 × Int32) (h : Nat → Int64) : sL (yz S r f) (8 + r) h = yz S r (fun j => (h j, (f j).2)) := by
  refine YS_ext (fun c => ?_) (fun c => ?_) (fun c k => rfl)
  · unfold yz
    simp only [gL_sI, gL_sL]
    split <;> rfl
  · unfold yz
    simp only [gI_sI, gI_sL]
/-- the keys of two neighbours changed -/
def zsk (f : Nat → Int64 × Int32) (i : Nat) : Nat → Int64 × Int32 := fun j => if j = i then ((f (i + 1)).1, (f j).2) else if j = i + 1 then ((f i).1, (f j).2) else f j
def zcn (n s : Nat) : Nat → Nat → (Nat → Int64 × Int32) → Nat → Int64 × Int32
  | 0, _, f => f
  | d + 1, i, f => if i + 1 < n then zcn n s d (i + s) (zsk f i) else f
theorem zcn_end {n s d i : Nat} {f : Nat → Int64 × Int32} (h : n ≤ i + 1) : zcn n s d i f = f := by
  cases d with
  | zero => rfl
  | succ d => exact if_neg (by omega)
theorem zcn_on {n s d i : Nat} {f : Nat → Int64 × Int32} (h : i + 1 < n) : zcn n s (d + 1) i f = zcn n s d (i + s) (zsk f i) := if_pos h
theorem zcn_congr {n s : Nat} : ∀ d i (f g : Nat → Int64 × Int32), (∀ j, j < n → f j = g j) → ∀ j, j < n → zcn n s d i f j = zcn n s d i g j := by
  intro d
  induction d with
  | zero => intro i f g h; exact h
  | succ d ih =>
    intro i f g h j hj
    by_cases e : i + 1 < n
    · rw [zcn_on e, zcn_on e]
      refine ih _ _ _ (fun t ht => ?_) j hj
      unfold zsk
      rw [h t ht, h i (by omega), h (i + 1) e]
    · rw [zcn_end (by omega), zcn_end (by omega)]
      exact h j hj
/-- neighbours changed at each step-th place -/
def zcq (n : Nat) (st : Int32) (f : Nat → Int64 × Int32) : Nat → Int64 × Int32 := if 0 < st.toInt then zcn n st.toInt.toNat (n + 1) st.toInt.toNat f else f
theorem nI_toNat {x : Int32} (h : 0 ≤ x.toInt) : nI x.toInt.toNat = x := by
  have hb := zw_i x
  apply Int32.toInt_inj.mp
  rw [nI_toInt (by omega)]
  omega
/-- what fill lays -/
def zfi (kd n : Nat) (a : Int64) (s : Int32) : Nat → Int64 × Int32 := fun j => (zkk kd n j a s, nI j)
def zfl5 (kd n : Nat) (a : Int64) (s : Int32) : Nat → Int64 × Int32 := if kd = 5 then zcq n s (zfi kd n a s) else zfi kd n a s
theorem zcq_congr {n : Nat} {st : Int32} {f g : Nat → Int64 × Int32} (h : ∀ j, j < n → f j = g j) : ∀ j, j < n → zcq n st f j = zcq n st g j := by
  intro j hj
  unfold zcq
  split
  · exact zcn_congr _ _ f g h j hj
  · exact h j hj
set_option maxHeartbeats 4000000 in
set_option maxRecDepth 100000 in
theorem ct_B_changeNeighbours (l : Launch) (g : YG) (S : YS) (k n : Nat) (hk : k < 4) (hn : n ≤ 1024) (hc : gF S (2 + k) 2 = nI n) (st : Int32) : yC l mn_B_changeNeighbours mb_B_changeNeighbours 5 none 0 g [.ref (g.ad (2 + k)), .int (st)] S (fun v S' => v = none ∧ S' = yz S k (zcq n st (ye S k))) := by
  refine yC_of (by decide) (Nat.le_of_ble_eq_true rfl) ?_
  intro o hl hg hB0 hE
  subst hl
  subst hg
  have hB : yB o mb_B_changeNeighbours "OrderBench" := hB0
  have hm := hE.1
  show yW o (S) 0 [(0, .ref (o.G.ad (2 + k))), (1, .int (st))] []
  have hk6 : k < 6 := by omega
  refine y_iload_n (pc' := 1) hB dc_B_changeNeighbours_0 rfl rfl 1 rfl ?_
  refine y_if_gt (x := st) (pc' := 4) (tg := 5) hB dc_B_changeNeighbours_1 rfl rfl (fun b1 => ?_) (fun b1 => ?_)
  · have b2 : 0 < st.toInt := Int32.lt_iff_toInt_lt.mp b1
    have hsb := zw_i st
    obtain ⟨s, hs⟩ : ∃ z, z = st.toInt.toNat := ⟨_, rfl⟩
    have hst : nI s = st := by rw [hs]; exact nI_toNat (by omega)
    have hs0 : 0 < s := by omega
    have hs1 : s < 2 ^ 31 := by omega
    have hq : zcq n st (ye S k) = zcn n s (n + 1) s (ye S k) := by unfold zcq; rw [if_pos b2, ← hs]
    rw [← hst]
    refine y_iload_n (pc' := 6) hB dc_B_changeNeighbours_5 rfl rfl 1 rfl ?_
    refine y_istore_n (pc' := 7) (lv' := [(2, .int (nI (s))), (0, .ref (o.G.ad (2 + k))), (1, .int (nI (s)))]) hB hm dc_B_changeNeighbours_6 rfl rfl (by decide) rfl ?_
    have loop : ∀ (d : Nat) (i fu : Nat) (f1 : Nat → Int64 × Int32), n - i < d → s ≤ i ∧ i < 2 ^ 31 → n - i < fu → zcn n s fu i f1 = zcn n s (n + 1) s (ye S k) → yW o (yz S k f1) 7 [(2, .int (nI (i))), (0, .ref (o.G.ad (2 + k))), (1, .int (nI (s)))] [] := by
      intro d
      induction d with
      | zero => intro i fu f1 hd; omega
      | succ d ih =>
        intro i fu f1 hd h1 h2 h3
        have fin : n ≤ i + 1 → yW o (yz S k f1) 54 [(2, .int (nI (i))), (0, .ref (o.G.ad (2 + k))), (1, .int (nI (s)))] [] := by
          intro q
          rw [zcn_end q] at h3
          exact y_vret hB hE dc_B_changeNeighbours_54 ⟨rfl, by rw [hq, ← h3]⟩
        refine y_iload_n (pc' := 8) hB dc_B_changeNeighbours_7 rfl rfl 0 rfl ?_
        refine y_aload_n (pc' := 9) hB dc_B_changeNeighbours_8 rfl rfl 1 rfl ?_
        refine f_count (r := k) (pc' := 12) hB dc_B_changeNeighbours_9 rfl (by omega) q_53 ?_
        refine y_topi (y := nI (n)) hc ?_
        rcases Nat.eq_zero_or_pos n with hn0 | hn0
        · rw [hn0]
          refine y_iconst (v := nI 1) (pc' := 13) hB dc_B_changeNeighbours_12 rfl rfl ?_
          refine y_isub (v := (nI 0) - (nI (1))) (pc' := 14) hB dc_B_changeNeighbours_13 rfl rfl ?_
          refine y_icmp_ge (x := nI (i)) (y := (nI 0) - (nI (1))) (pc' := 17) (tg := 54) hB dc_B_changeNeighbours_14 rfl rfl (fun b3 => ?_) (fun b3 => ?_)
          · exact fin (by omega)
          · exfalso
            apply b3
            rw [Int32.le_iff_toInt_le, nI_toInt h1.2]
            have : ((nI 0) - (nI 1)).toInt = -1 := by decide
            omega
        · refine y_iconst (v := nI 1) (pc' := 13) hB dc_B_changeNeighbours_12 rfl rfl ?_
          refine n_isub (x := n) (y := 1) (pc' := 14) hB dc_B_changeNeighbours_13 rfl (by omega) ?_
          refine n_icmp_ge (pc' := 17) (tg := 54) hB dc_B_changeNeighbours_14 rfl rfl (by omega) (by omega) (fun b3 => ?_) (fun b3 => ?_)
          · exact fin (by omega)
          · refine y_aload_n (pc' := 18) hB dc_B_changeNeighbours_17 rfl rfl 1 rfl ?_
            refine f_keys (r := k) (pc' := 21) hB dc_B_changeNeighbours_18 rfl (by omega) q_40 ?_
            refine y_iload_n (pc' := 22) hB dc_B_changeNeighbours_21 rfl rfl 0 rfl ?_
            refine y_lald (c := 8 + k) (n := 1024) (j := i) (pc' := 23) hB dc_B_changeNeighbours_22 rfl (by unfold yN; omega) (yk_row (by omega)).2.1 (by omega) (by decide) ?_
            refine y_lstore_n (pc' := 24) (lv' := [(3, .long (gL (yz S k f1) (8 + k) (i))), (2, .int (nI (i))), (0, .ref (o.G.ad (2 + k))), (1, .int (nI (s)))]) hB hm dc_B_changeNeighbours_23 rfl rfl (by decide) rfl ?_
            refine y_aload_n (pc' := 25) hB dc_B_changeNeighbours_24 rfl rfl 2 rfl ?_
            refine f_keys (r := k) (pc' := 28) hB dc_B_changeNeighbours_25 rfl (by omega) q_40 ?_
            refine y_iload_n (pc' := 29) hB dc_B_changeNeighbours_28 rfl rfl 1 rfl ?_
            refine y_aload_n (pc' := 30) hB dc_B_changeNeighbours_29 rfl rfl 2 rfl ?_
            refine f_keys (r := k) (pc' := 33) hB dc_B_changeNeighbours_30 rfl (by omega) q_40 ?_
            refine y_iload_n (pc' := 34) hB dc_B_changeNeighbours_33 rfl rfl 1 rfl ?_
            refine y_iconst (v := nI 1) (pc' := 35) hB dc_B_changeNeighbours_34 rfl rfl ?_
            refine n_iadd (x := i) (y := 1) (pc' := 36) hB dc_B_changeNeighbours_35 rfl ?_
            refine y_lald (c := 8 + k) (n := 1024) (j := i + 1) (pc' := 37) hB dc_B_changeNeighbours_36 rfl (by unfold yN; omega) (yk_row (by omega)).2.1 (by omega) (by decide) ?_
            refine y_last (c := 8 + k) (n := 1024) (j := i) (pc' := 38) hB dc_B_changeNeighbours_37 rfl (by unfold yN; omega) (yk_row (by omega)).2.1 (by omega) (by decide) ?_
            refine y_aload_n (pc' := 39) hB dc_B_changeNeighbours_38 rfl rfl 2 rfl ?_
            refine f_keys (r := k) (pc' := 42) hB dc_B_changeNeighbours_39 rfl (by omega) q_40 ?_
            refine y_iload_n (pc' := 43) hB dc_B_changeNeighbours_42 rfl rfl 1 rfl ?_
            refine y_iconst (v := nI 1) (pc' := 44) hB dc_B_changeNeighbours_43 rfl rfl ?_
            refine n_iadd (x := i) (y := 1) (pc' := 45) hB dc_B_changeNeighbours_44 rfl ?_
            refine y_lload_n (pc' := 46) hB dc_B_changeNeighbours_45 rfl rfl 0 rfl ?_
            refine y_last (c := 8 + k) (n := 1024) (j := i + 1) (pc' := 47) hB dc_B_changeNeighbours_46 rfl (by unfold yN; omega) (yk_row (by omega)).2.1 (by omega) (by decide) ?_
            have hS : sL (sL (yz S k f1) (8 + k) (vp_updL (gL (yz S k f1) (8 + k)) (i) (gL (yz S k f1) (8 + k) (i + 1)))) (8 + k) (vp_updL (gL (sL (yz S k f1) (8 + k) (vp_updL (gL (yz S k f1) (8 + k)) (i) (gL (yz S k f1) (8 + k) (i + 1)))) (8 + k)) (i + 1) (gL (yz S k f1) (8 + k) (i))) = yz S k (zsk f1 i) := by
              rw [gL_yz, gL_same, sL_sL, sL_yz]
              congr 1
              funext j
              unfold zsk vp_updL
              by_cases e1 : j = i
              · subst e1; simp
              · by_cases e2 : j = i + 1
                · subst e2; simp
                · simp [e1, e2]
            rw [hS]
            refine y_iload_n (pc' := 48) hB dc_B_changeNeighbours_47 rfl rfl 1 rfl ?_
            refine y_iload_n (pc' := 49) hB dc_B_changeNeighbours_48 rfl rfl 3 rfl ?_
            refine n_iadd (x := i) (y := s) (pc' := 50) hB dc_B_changeNeighbours_49 rfl ?_
            refine y_istore_n (pc' := 51) (lv' := [(2, .int (nI (i + s))), (3, .long (gL (yz S k f1) (8 + k) (i))), (0, .ref (o.G.ad (2 + k))), (1, .int (nI (s)))]) hB hm dc_B_changeNeighbours_50 rfl rfl (by decide) rfl ?_
            refine y_goto (tg := 7) hB dc_B_changeNeighbours_51 rfl ?_
            refine y_sub [0, 2, 3] rfl ?_
            obtain ⟨fu2, rfl⟩ : ∃ z, fu = z + 1 := ⟨fu - 1, by omega⟩
            rw [zcn_on (show i + 1 < n by omega)] at h3
            exact ih (i + s) fu2 _ (by omega) (by omega) (by omega) h3
    have h0 := loop (n + 1) s (n + 1) (ye S k) (by omega) ⟨Nat.le_refl _, hs1⟩ (by omega) rfl
    rw [yz_self] at h0
    exact h0
  · have hq : zcq n st (ye S k) = (ye S k) := by unfold zcq; rw [if_neg (fun z : 0 < st.toInt => b1 (Int32.lt_iff_toInt_lt.mpr z))]
    exact y_vret hB hE dc_B_changeNeighbours_4 ⟨rfl, by rw [hq, yz_self]⟩
set_option maxHeartbeats 4000000 in
set_option maxRecDepth 100000 in
theorem ct_B_fill (l : Launch) (g : YG) (S : YS) (k m kd : Nat) (hk : k < 4) (hm2 : m ≤ 1024) (hkd : kd < 6) (a : Int64) (s : Int32) : yC l mn_B_fill mb_B_fill 9 none 3 g [.ref (g.ad (0)), .int (nI (k)), .int (nI (m)), .int (nI (kd)), .long (a), .int (s)] S (fun v S' => ∃ f', v = none ∧ S' = yz (sF S (2 + k) 2 (nI m)) k f' ∧ ∀ j, j < m → f' j = zfl5 kd m a s j) := by
  refine yC_of (by decide) (Nat.le_of_ble_eq_true rfl) ?_
  intro o hl hg hB0 hE
  subst hl
  subst hg
  have hB : yB o mb_B_fill "OrderBench" := hB0
  have hm := hE.1
  show yW o (S) 0 [(0, .ref (o.G.ad (0))), (1, .int (nI (k))), (2, .int (nI (m))), (3, .int (nI (kd))), (4, .long (a)), (6, .int (s))] []
  have hk6 : k < 6 := by omega
  refine y_aload_n (pc' := 1) hB dc_B_fill_0 rfl rfl 0 rfl ?_
  refine y_iload_n (pc' := 2) hB dc_B_fill_1 rfl rfl 1 rfl ?_
  refine y_callV (c := 0) (ci := 0) (As := [.int (nI (k))]) (rest := []) (pc' := 5) hB hE (ct_B_rowAt o.l o.G S k hk) mm_B_rowAt q_137 q_139 qs_0 (by decide) rfl rfl dc_B_fill_2 rfl (by decide) rfl rfl (Nat.le_of_ble_eq_true rfl) (fun v S' hpost => ?_)
  obtain ⟨rfl, hSS⟩ := hpost
  rw [hSS]
  clear hSS S'
  show yW o (S) 5 [(0, .ref (o.G.ad (0))), (1, .int (nI (k))), (2, .int (nI (m))), (3, .int (nI (kd))), (4, .long (a)), (6, .int (s))] [.ref (o.G.ad (2 + k))]
  refine y_astore (pc' := 7) (lv' := [(7, .ref (o.G.ad (2 + k))), (0, .ref (o.G.ad (0))), (1, .int (nI (k))), (2, .int (nI (m))), (3, .int (nI (kd))), (4, .long (a)), (6, .int (s))]) hB hm dc_B_fill_5 rfl (by decide) rfl ?_
  refine y_iload_n (pc' := 8) hB dc_B_fill_7 rfl rfl 3 rfl ?_
  refine n_if_lt (pc' := 11) (tg := 18) hB dc_B_fill_8 rfl rfl (by omega) ?_
  refine y_iload_n (pc' := 12) hB dc_B_fill_11 rfl rfl 3 rfl ?_
  refine y_sipush (v := nI 1024) (pc' := 15) hB dc_B_fill_12 rfl (by decide) ?_
  refine n_icmp_le (pc' := 18) (tg := 28) hB dc_B_fill_15 rfl rfl (by omega) (by omega) (fun b2 => ?_) (fun b2 => ?_)
  · refine y_iload_n (pc' := 29) hB dc_B_fill_28 rfl rfl 4 rfl ?_
    refine n_if_lt (pc' := 32) (tg := 37) hB dc_B_fill_29 rfl rfl (by omega) ?_
    refine y_iload_n (pc' := 33) hB dc_B_fill_32 rfl rfl 4 rfl ?_
    refine y_iconst (v := nI 5) (pc' := 34) hB dc_B_fill_33 rfl rfl ?_
    refine n_icmp_le (pc' := 37) (tg := 47) hB dc_B_fill_34 rfl rfl (by omega) (by omega) (fun b4 => ?_) (fun b4 => ?_)
    · refine y_aload (pc' := 49) hB dc_B_fill_47 rfl 0 rfl ?_
      refine y_iload_n (pc' := 50) hB dc_B_fill_49 rfl rfl 3 rfl ?_
      refine p_count (r := k) (pc' := 53) hB dc_B_fill_50 rfl (by omega) q_53 ?_
      refine y_aload (pc' := 55) hB dc_B_fill_53 rfl 0 rfl ?_
      have hc1 : gF (sF S (2 + k) 2 (nI m)) (2 + k) 2 = nI m := by rw [gF_sF, if_pos ⟨rfl, rfl⟩]
      refine y_callV (c := 2 + k) (ci := 1) (As := []) (rest := []) (pc' := 58) hB hE (ct_R_numberTags o.l o.G (sF S (2 + k) 2 (nI m)) k hk6 m hm2 hc1) mm_R_numberTags q_254 q_255 q_256 (by unfold yN; omega) (yk_row (by omega)).1 rfl dc_B_fill_55 rfl (by decide) rfl rfl (Nat.le_of_ble_eq_true rfl) (fun v S' hpost => ?_)
      obtain ⟨rfl, hSS⟩ := hpost
      rw [hSS]
      clear hSS S'
      show yW o (yz (sF S (2 + k) 2 (nI m)) k (znm (ye (sF S (2 + k) 2 (nI m)) k) m)) 58 [(7, .ref (o.G.ad (2 + k))), (0, .ref (o.G.ad (0))), (1, .int (nI (k))), (2, .int (nI (m))), (3, .int (nI (kd))), (4, .long (a)), (6, .int (s))] []
      refine y_iconst (v := nI 0) (pc' := 59) hB dc_B_fill_58 rfl rfl ?_
      refine y_istore (pc' := 61) (lv' := [(8, .int (nI (0))), (7, .ref (o.G.ad (2 + k))), (0, .ref (o.G.ad (0))), (1, .int (nI (k))), (2, .int (nI (m))), (3, .int (nI (kd))), (4, .long (a)), (6, .int (s))]) hB hm dc_B_fill_59 rfl (by decide) rfl ?_
      have loop : ∀ (d : Nat) (i : Nat) (f1 : Nat → Int64 × Int32), m - i < d → i ≤ m → (∀ j, j < i → f1 j = zfi kd m a s j) → (∀ j, j < m → (f1 j).2 = nI j) → yW o (yz (sF S (2 + k) 2 (nI m)) k f1) 61 [(8, .int (nI (i))), (7, .ref (o.G.ad (2 + k))), (0, .ref (o.G.ad (0))), (1, .int (nI (k))), (2, .int (nI (m))), (3, .int (nI (kd))), (4, .long (a)), (6, .int (s))] [] := by
        intro d
        induction d with
        | zero => intro i f1 hd; omega
        | succ d ih =>
          intro i f1 hd h1 h2 h3
          refine y_iload (pc' := 63) hB dc_B_fill_61 rfl 0 rfl ?_
          refine y_iload_n (pc' := 64) hB dc_B_fill_63 rfl rfl 4 rfl ?_
          refine n_icmp_ge (pc' := 67) (tg := 92) hB dc_B_fill_64 rfl rfl (by omega) (by omega) (fun b5 => ?_) (fun b5 => ?_)
          · have e : i = m := by omega
            subst e
            refine y_iload_n (pc' := 93) hB dc_B_fill_92 rfl rfl 5 rfl ?_
            refine y_iconst (v := nI 5) (pc' := 94) hB dc_B_fill_93 rfl rfl ?_
            refine n_icmp_ne (pc' := 97) (tg := 104) hB dc_B_fill_94 rfl rfl (by omega) (by omega) (fun b6 => ?_) (fun b6 => ?_)
            · exact y_vret hB hE dc_B_fill_104 ⟨f1, rfl, rfl, fun j hj => by unfold zfl5; rw [if_neg b6]; exact h2 j hj⟩
            · refine y_aload (pc' := 99) hB dc_B_fill_97 rfl 1 rfl ?_
              refine y_iload (pc' := 101) hB dc_B_fill_99 rfl 7 rfl ?_
              refine y_callS (As := [.ref (o.G.ad (2 + k)), .int (s)]) (rest := []) (pc' := 104) hB hE (ct_B_changeNeighbours o.l o.G (yz (sF S (2 + k) 2 (nI i)) k f1) k i hk hm2 hc1 s) mm_B_changeNeighbours q_265 q_266 dc_B_fill_101 rfl (by decide) rfl rfl (Nat.le_of_ble_eq_true rfl) (fun v S' hpost => ?_)
              obtain ⟨rfl, hSS⟩ := hpost
              rw [hSS]
              clear hSS S'
              show yW o (yz (yz (sF S (2 + k) 2 (nI i)) k f1) k (zcq i s (ye (yz (sF S (2 + k) 2 (nI i)) k f1) k))) 104 [(8, .int (nI (i))), (7, .ref (o.G.ad (2 + k))), (0, .ref (o.G.ad (0))), (1, .int (nI (k))), (2, .int (nI (i))), (3, .int (nI (kd))), (4, .long (a)), (6, .int (s))] []
              rw [ye_yz, yz_yz]
              exact y_vret hB hE dc_B_fill_104 ⟨_, rfl, rfl, fun j hj => by unfold zfl5; rw [if_pos b6]; exact zcq_congr h2 j hj⟩
          · refine y_aload (pc' := 69) hB dc_B_fill_67 rfl 1 rfl ?_
            refine f_keys (r := k) (pc' := 72) hB dc_B_fill_69 rfl (by omega) q_40 ?_
            refine y_iload (pc' := 74) hB dc_B_fill_72 rfl 0 rfl ?_
            refine y_iload_n (pc' := 75) hB dc_B_fill_74 rfl rfl 5 rfl ?_
            refine y_iload_n (pc' := 76) hB dc_B_fill_75 rfl rfl 4 rfl ?_
            refine y_iload (pc' := 78) hB dc_B_fill_76 rfl 0 rfl ?_
            refine y_lload (pc' := 80) hB dc_B_fill_78 rfl 6 rfl ?_
            refine y_iload (pc' := 82) hB dc_B_fill_80 rfl 7 rfl ?_
            refine y_callS (As := [.int (nI (kd)), .int (nI (m)), .int (nI (i)), .long (a), .int (s)]) (rest := [.int (nI (i)), .ref (o.G.ad (8 + k))]) (pc' := 85) hB hE (ct_B_keyOfKind o.l o.G (yz (sF S (2 + k) 2 (nI m)) k f1) kd m i hkd hm2 b5 a s) mm_B_keyOfKind q_258 q_259 dc_B_fill_82 rfl (by decide) rfl rfl (Nat.le_of_ble_eq_true rfl) (fun v S' hpost => ?_)
            obtain ⟨rfl, hSS⟩ := hpost
            rw [hSS]
            clear hSS S'
            show yW o (yz (sF S (2 + k) 2 (nI m)) k f1) 85 [(8, .int (nI (i))), (7, .ref (o.G.ad (2 + k))), (0, .ref (o.G.ad (0))), (1, .int (nI (k))), (2, .int (nI (m))), (3, .int (nI (kd))), (4, .long (a)), (6, .int (s))] [.long (zkk kd m i a s), .int (nI (i)), .ref (o.G.ad (8 + k))]
            refine y_last (c := 8 + k) (n := 1024) (j := i) (pc' := 86) hB dc_B_fill_85 rfl (by unfold yN; omega) (yk_row (by omega)).2.1 (by omega) (by decide) ?_
            rw [gL_yz, sL_yz]
            refine n_inc (q := 0) (z := 1) (pc' := 89) (lv' := [(8, .int (nI (i + 1))), (7, .ref (o.G.ad (2 + k))), (0, .ref (o.G.ad (0))), (1, .int (nI (k))), (2, .int (nI (m))), (3, .int (nI (kd))), (4, .long (a)), (6, .int (s))]) hB hm dc_B_fill_86 rfl rfl (by decide) rfl ?_
            refine y_goto (tg := 61) hB dc_B_fill_89 rfl ?_
            refine y_sub [0, 1, 2, 3, 4, 5, 6, 7] rfl ?_
            refine ih (i + 1) _ (by omega) b5 (fun j hj => ?_) (fun j hj => h3 j hj)
            unfold vp_updL
            by_cases e : j = i
            · subst e
              show (if j = j then _ else _, (f1 j).2) = _
              rw [if_pos rfl, h3 j b5]
              rfl
            · show (if j = i then _ else (f1 j).1, (f1 j).2) = _
              rw [if_neg e]
              exact h2 j (by omega)
      exact loop (m + 1) 0 _ (by omega) (by omega) (fun j hj => by omega) (fun j hj => by unfold znm; rw [if_pos hj])
    · omega
  · omega
