/-! REFERENCE: placing -/
theorem dc_M_belongsBefore_0 : decode mb_M_belongsBefore 0 = .ok (.aload_n 0, 1) := by decide +kernel
theorem dc_M_belongsBefore_1 : decode mb_M_belongsBefore 1 = .ok (.getfield 20, 3) := by decide +kernel
theorem dc_M_belongsBefore_4 : decode mb_M_belongsBefore 4 = .ok (.iload 6, 2) := by decide +kernel
theorem dc_M_belongsBefore_6 : decode mb_M_belongsBefore 6 = .ok (.laload, 1) := by decide +kernel
theorem dc_M_belongsBefore_7 : decode mb_M_belongsBefore 7 = .ok (.lstore 7, 2) := by decide +kernel
theorem dc_M_belongsBefore_9 : decode mb_M_belongsBefore 9 = .ok (.iload_n 1, 1) := by decide +kernel
theorem dc_M_belongsBefore_10 : decode mb_M_belongsBefore 10 = .ok (.lload_n 3, 1) := by decide +kernel
theorem dc_M_belongsBefore_11 : decode mb_M_belongsBefore 11 = .ok (.lload 7, 2) := by decide +kernel
theorem dc_M_belongsBefore_13 : decode mb_M_belongsBefore 13 = .ok (.invokestatic 52, 3) := by decide +kernel
theorem dc_M_belongsBefore_16 : decode mb_M_belongsBefore 16 = .ok (.ifCond .eq 5, 3) := by decide +kernel
theorem dc_M_belongsBefore_19 : decode mb_M_belongsBefore 19 = .ok (.iconst 1, 1) := by decide +kernel
theorem dc_M_belongsBefore_20 : decode mb_M_belongsBefore 20 = .ok (.ireturn, 1) := by decide +kernel
theorem dc_M_belongsBefore_21 : decode mb_M_belongsBefore 21 = .ok (.iload_n 2, 1) := by decide +kernel
theorem dc_M_belongsBefore_22 : decode mb_M_belongsBefore 22 = .ok (.ifCond .ne 13, 3) := by decide +kernel
theorem dc_M_belongsBefore_25 : decode mb_M_belongsBefore 25 = .ok (.iload_n 1, 1) := by decide +kernel
theorem dc_M_belongsBefore_26 : decode mb_M_belongsBefore 26 = .ok (.lload 7, 2) := by decide +kernel
theorem dc_M_belongsBefore_28 : decode mb_M_belongsBefore 28 = .ok (.lload_n 3, 1) := by decide +kernel
theorem dc_M_belongsBefore_29 : decode mb_M_belongsBefore 29 = .ok (.invokestatic 52, 3) := by decide +kernel
theorem dc_M_belongsBefore_32 : decode mb_M_belongsBefore 32 = .ok (.ifCond .eq 5, 3) := by decide +kernel
theorem dc_M_belongsBefore_35 : decode mb_M_belongsBefore 35 = .ok (.iconst 0, 1) := by decide +kernel
theorem dc_M_belongsBefore_36 : decode mb_M_belongsBefore 36 = .ok (.ireturn, 1) := by decide +kernel
theorem dc_M_belongsBefore_37 : decode mb_M_belongsBefore 37 = .ok (.iload 5, 2) := by decide +kernel
theorem dc_M_belongsBefore_39 : decode mb_M_belongsBefore 39 = .ok (.aload_n 0, 1) := by decide +kernel
theorem dc_M_belongsBefore_40 : decode mb_M_belongsBefore 40 = .ok (.getfield 23, 3) := by decide +kernel
theorem dc_M_belongsBefore_43 : decode mb_M_belongsBefore 43 = .ok (.iload 6, 2) := by decide +kernel
theorem dc_M_belongsBefore_45 : decode mb_M_belongsBefore 45 = .ok (.iaload, 1) := by decide +kernel
theorem dc_M_belongsBefore_46 : decode mb_M_belongsBefore 46 = .ok (.if_icmp .lt 22, 3) := by decide +kernel
theorem dc_M_belongsBefore_49 : decode mb_M_belongsBefore 49 = .ok (.iload 5, 2) := by decide +kernel
theorem dc_M_belongsBefore_51 : decode mb_M_belongsBefore 51 = .ok (.aload_n 0, 1) := by decide +kernel
theorem dc_M_belongsBefore_52 : decode mb_M_belongsBefore 52 = .ok (.getfield 23, 3) := by decide +kernel
theorem dc_M_belongsBefore_55 : decode mb_M_belongsBefore 55 = .ok (.iload 6, 2) := by decide +kernel
theorem dc_M_belongsBefore_57 : decode mb_M_belongsBefore 57 = .ok (.iaload, 1) := by decide +kernel
theorem dc_M_belongsBefore_58 : decode mb_M_belongsBefore 58 = .ok (.if_icmp .ne 14, 3) := by decide +kernel
theorem dc_M_belongsBefore_61 : decode mb_M_belongsBefore 61 = .ok (.lload_n 3, 1) := by decide +kernel
theorem dc_M_belongsBefore_62 : decode mb_M_belongsBefore 62 = .ok (.lload 7, 2) := by decide +kernel
theorem dc_M_belongsBefore_64 : decode mb_M_belongsBefore 64 = .ok (.lcmp, 1) := by decide +kernel
theorem dc_M_belongsBefore_65 : decode mb_M_belongsBefore 65 = .ok (.ifCond .ge 7, 3) := by decide +kernel
theorem dc_M_belongsBefore_68 : decode mb_M_belongsBefore 68 = .ok (.iconst 1, 1) := by decide +kernel
theorem dc_M_belongsBefore_69 : decode mb_M_belongsBefore 69 = .ok (.goto 4, 3) := by decide +kernel
theorem dc_M_belongsBefore_72 : decode mb_M_belongsBefore 72 = .ok (.iconst 0, 1) := by decide +kernel
theorem dc_M_belongsBefore_73 : decode mb_M_belongsBefore 73 = .ok (.ireturn, 1) := by decide +kernel
/-- the work of the reference: m entries f -/
def mW (S : YS) (f : Nat → Int64 × Int32) (m : Nat) : YS := sF (sI (sL S 28 (fun j => (f j).1)) 29 (fun j => (f j).2)) 24 6 (nI m)
theorem mW_L (S : YS) (f : Nat → Int64 × Int32) (m : Nat) : gL (mW S f m) 28 = fun j => (f j).1 := by
  show gL (sL S 28 (fun j => (f j).1)) 28 = _
  rw [gL_sL, if_pos rfl]
theorem mW_I (S : YS) (f : Nat → Int64 × Int32) (m : Nat) : gI (mW S f m) 29 = fun j => (f j).2 := by
  show gI (sI (sL S 28 (fun j => (f j).1)) 29 (fun j => (f j).2)) 29 = _
  rw [gI_same]
theorem mW_n (S : YS) (f : Nat → Int64 × Int32) (m : Nat) : gF (mW S f m) 24 6 = nI m := by unfold mW; rw [gF_sF, if_pos ⟨rfl, rfl⟩]
theorem mW_put (S : YS) (f : Nat → Int64 × Int32) (m j : Nat) (a : Int64) (t : Int32) : sI (sL (mW S f m) 28 (vp_updL (fun j => (f j).1) j a)) 29 (upd (fun j => (f j).2) j t) = mW S (va_up f j (a, t)) m := by
  refine YS_ext (fun c => ?_) (fun c => ?_) (fun c k => rfl)
  · unfold mW
    show gL (sL (sL S 28 _) 28 _) c = gL (sL S 28 _) c
    simp only [gL_sL]
    split
    · funext i; unfold vp_updL va_up; split <;> rfl
    · rfl
  · unfold mW
    show gI (sI (sI (sL S 28 _) 29 _) 29 _) c = gI (sI (sL S 28 _) 29 _) c
    simp only [gI_sI]
    split
    · funext i; unfold upd va_up; split <;> rfl
    · rfl
theorem mW_m (S : YS) (f : Nat → Int64 × Int32) (m m' : Nat) : sF (mW S f m) 24 6 (nI m') = mW S f m' := sF_sF _ 24 6 _ _
set_option maxHeartbeats 4000000 in
set_option maxRecDepth 100000 in
theorem ct_M_belongsBefore (l : Launch) (g : YG) (S : YS) (f : Nat → Int64 × Int32) (m : Nat) (od : Nat) (ho : od < 8) (tg : Bool) (a : Int64) (t : Int32) (j : Nat) (hj : j < 2048) : yC l mn_M_belongsBefore mb_M_belongsBefore 9 (some .boolean) 2 g [.ref (g.ad (24)), .int (nI (od)), .int (yb (!tg)), .long (a), .int (t), .int (nI (j))] (mW S f m) (fun v S' => v = some (.int (yb (decide (zq od tg (a, t) < zq od tg (f j))))) ∧ S' = mW S f m) := by
  refine yC_of (by decide) (Nat.le_of_ble_eq_true rfl) ?_
  intro o hl hg hB0 hE
  subst hl
  subst hg
  have hB : yB o mb_M_belongsBefore "OrderBenchModel" := hB0
  have hm := hE.1
  show yW o (mW S f m) 0 [(0, .ref (o.G.ad (24))), (1, .int (nI (od))), (2, .int (yb (!tg))), (3, .long (a)), (5, .int (t)), (6, .int (nI (j)))] []
  obtain ⟨b, hb⟩ : ∃ z, z = f j := ⟨_, rfl⟩
  have qt : tg = true → (zq od tg (a, t) < zq od tg b ↔ zr od a < zr od b.1 ∨ (zr od a = zr od b.1 ∧ (t.toInt < b.2.toInt ∨ (t.toInt = b.2.toInt ∧ a.toInt < b.1.toInt)))) := fun e => by rw [e]; exact zf_lt
  have qf : tg = false → (zq od tg (a, t) < zq od tg b ↔ zr od a < zr od b.1) := fun e => by rw [e]; exact Iff.rfl
  refine y_aload_n (pc' := 1) hB dc_M_belongsBefore_0 rfl rfl 0 rfl ?_
  refine f_M_workKeys (pc' := 4) hB dc_M_belongsBefore_1 rfl q_643 ?_
  refine y_iload (pc' := 6) hB dc_M_belongsBefore_4 rfl 5 rfl ?_
  refine y_lald (c := 28) (n := 2048) (j := j) (pc' := 7) hB dc_M_belongsBefore_6 rfl (by decide) rfl (by omega) (by decide) ?_
  refine y_topl (y := b.1) (by rw [mW_L, hb]) ?_
  refine y_lstore (pc' := 9) (lv' := [(7, .long (b.1)), (0, .ref (o.G.ad (24))), (1, .int (nI (od))), (2, .int (yb (!tg))), (3, .long (a)), (5, .int (t)), (6, .int (nI (j)))]) hB hm dc_M_belongsBefore_7 rfl (by decide) rfl ?_
  refine y_iload_n (pc' := 10) hB dc_M_belongsBefore_9 rfl rfl 2 rfl ?_
  refine y_lload_n (pc' := 11) hB dc_M_belongsBefore_10 rfl rfl 4 rfl ?_
  refine y_lload (pc' := 13) hB dc_M_belongsBefore_11 rfl 0 rfl ?_
  refine y_callS (As := [.int (nI (od)), .long (a), .long (b.1)]) (rest := []) (pc' := 16) hB hE (ct_M_isBefore o.l o.G (mW S f m) od ho a b.1) mm_M_isBefore q_740 q_741 dc_M_belongsBefore_13 rfl (by decide) rfl rfl (Nat.le_of_ble_eq_true rfl) (fun v S' hpost => ?_)
  obtain ⟨rfl, hSS⟩ := hpost
  rw [hSS]
  clear hSS S'
  show yW o (mW S f m) 16 [(7, .long (b.1)), (0, .ref (o.G.ad (24))), (1, .int (nI (od))), (2, .int (yb (!tg))), (3, .long (a)), (5, .int (t)), (6, .int (nI (j)))] [.int (yb (decide (zr od a < zr od b.1)))]
  refine y_if_eq (x := yb (decide (zr od a < zr od b.1))) (pc' := 19) (tg := 21) hB dc_M_belongsBefore_16 rfl rfl (fun b1 => ?_) (fun b1 => ?_)
  · rw [yb_0, decide_eq_false_iff_not] at b1
    refine y_iload_n (pc' := 22) hB dc_M_belongsBefore_21 rfl rfl 3 rfl ?_
    refine y_if_ne (x := yb (!tg)) (pc' := 25) (tg := 35) hB dc_M_belongsBefore_22 rfl rfl (fun b2 => ?_) (fun b2 => ?_)
    · have e : tg = false := by have := yb_n.mp b2; cases tg with | true => exact absurd this (by decide) | false => rfl
      refine y_iconst (v := nI 0) (pc' := 36) hB dc_M_belongsBefore_35 rfl rfl ?_
      exact y_zret hB hE dc_M_belongsBefore_36 (Or.inl rfl) ⟨by rw [← hb, decide_eq_false (fun z => b1 ((qf e).mp z))]; rfl, rfl⟩
    · have e : tg = true := by have := yb_0.mp b2; cases tg with | false => exact absurd this (by decide) | true => rfl
      refine y_iload_n (pc' := 26) hB dc_M_belongsBefore_25 rfl rfl 2 rfl ?_
      refine y_lload (pc' := 28) hB dc_M_belongsBefore_26 rfl 0 rfl ?_
      refine y_lload_n (pc' := 29) hB dc_M_belongsBefore_28 rfl rfl 4 rfl ?_
      refine y_callS (As := [.int (nI (od)), .long (b.1), .long (a)]) (rest := []) (pc' := 32) hB hE (ct_M_isBefore o.l o.G (mW S f m) od ho b.1 a) mm_M_isBefore q_740 q_741 dc_M_belongsBefore_29 rfl (by decide) rfl rfl (Nat.le_of_ble_eq_true rfl) (fun v S' hpost => ?_)
      obtain ⟨rfl, hSS⟩ := hpost
      rw [hSS]
      clear hSS S'
      show yW o (mW S f m) 32 [(7, .long (b.1)), (0, .ref (o.G.ad (24))), (1, .int (nI (od))), (2, .int (yb (!tg))), (3, .long (a)), (5, .int (t)), (6, .int (nI (j)))] [.int (yb (decide (zr od b.1 < zr od a)))]
      refine y_if_eq (x := yb (decide (zr od b.1 < zr od a))) (pc' := 35) (tg := 37) hB dc_M_belongsBefore_32 rfl rfl (fun b3 => ?_) (fun b3 => ?_)
      · rw [yb_0, decide_eq_false_iff_not] at b3
        refine y_iload (pc' := 39) hB dc_M_belongsBefore_37 rfl 5 rfl ?_
        refine y_aload_n (pc' := 40) hB dc_M_belongsBefore_39 rfl rfl 1 rfl ?_
        refine f_M_workTags (pc' := 43) hB dc_M_belongsBefore_40 rfl q_644 ?_
        refine y_iload (pc' := 45) hB dc_M_belongsBefore_43 rfl 6 rfl ?_
        refine y_iald (c := 29) (n := 2048) (j := j) (pc' := 46) hB dc_M_belongsBefore_45 rfl (by decide) rfl (by omega) (by decide) ?_
        refine y_topi (y := b.2) (by rw [mW_I, hb]) ?_
        refine y_icmp_lt (x := t) (y := b.2) (pc' := 49) (tg := 68) hB dc_M_belongsBefore_46 rfl rfl (fun b4 => ?_) (fun b4 => ?_)
        · rw [Int32.lt_iff_toInt_lt] at b4
          refine y_iconst (v := nI 1) (pc' := 69) hB dc_M_belongsBefore_68 rfl rfl ?_
          refine y_goto (tg := 73) hB dc_M_belongsBefore_69 rfl ?_
          exact y_zret hB hE dc_M_belongsBefore_73 (Or.inr rfl) ⟨by rw [← hb, decide_eq_true ((qt e).mpr (Or.inr ⟨by omega, Or.inl b4⟩))]; rfl, rfl⟩
        · rw [Int32.lt_iff_toInt_lt] at b4
          refine y_iload (pc' := 51) hB dc_M_belongsBefore_49 rfl 5 rfl ?_
          refine y_aload_n (pc' := 52) hB dc_M_belongsBefore_51 rfl rfl 1 rfl ?_
          refine f_M_workTags (pc' := 55) hB dc_M_belongsBefore_52 rfl q_644 ?_
          refine y_iload (pc' := 57) hB dc_M_belongsBefore_55 rfl 6 rfl ?_
          refine y_iald (c := 29) (n := 2048) (j := j) (pc' := 58) hB dc_M_belongsBefore_57 rfl (by decide) rfl (by omega) (by decide) ?_
          refine y_topi (y := b.2) (by rw [mW_I, hb]) ?_
          refine y_icmp_ne (x := t) (y := b.2) (pc' := 61) (tg := 72) hB dc_M_belongsBefore_58 rfl rfl (fun b5 => ?_) (fun b5 => ?_)
          · have b6 : t.toInt ≠ b.2.toInt := fun z => b5 (Int32.toInt_inj.mp z)
            refine y_iconst (v := nI 0) (pc' := 73) hB dc_M_belongsBefore_72 rfl rfl ?_
            exact y_zret hB hE dc_M_belongsBefore_73 (Or.inl rfl) ⟨by rw [← hb, decide_eq_false (fun z => by have := (qt e).mp z; omega)]; rfl, rfl⟩
          · have b6 : t.toInt = b.2.toInt := by rw [b5]
            refine y_lload_n (pc' := 62) hB dc_M_belongsBefore_61 rfl rfl 4 rfl ?_
            refine y_lload (pc' := 64) hB dc_M_belongsBefore_62 rfl 0 rfl ?_
            refine y_lcmp (pc' := 65) hB dc_M_belongsBefore_64 rfl ?_
            refine y_if_ge (x := lg_cmp (a) (b.1)) (pc' := 68) (tg := 72) hB dc_M_belongsBefore_65 rfl rfl (fun b7 => ?_) (fun b7 => ?_)
            · rw [lg_ge] at b7
              refine y_iconst (v := nI 0) (pc' := 73) hB dc_M_belongsBefore_72 rfl rfl ?_
              exact y_zret hB hE dc_M_belongsBefore_73 (Or.inl rfl) ⟨by rw [← hb, decide_eq_false (fun z => by have := (qt e).mp z; omega)]; rfl, rfl⟩
            · rw [lg_ge] at b7
              refine y_iconst (v := nI 1) (pc' := 69) hB dc_M_belongsBefore_68 rfl rfl ?_
              refine y_goto (tg := 73) hB dc_M_belongsBefore_69 rfl ?_
              exact y_zret hB hE dc_M_belongsBefore_73 (Or.inr rfl) ⟨by rw [← hb, decide_eq_true ((qt e).mpr (by omega))]; rfl, rfl⟩
      · rw [yb_n, decide_eq_true_eq] at b3
        refine y_iconst (v := nI 0) (pc' := 36) hB dc_M_belongsBefore_35 rfl rfl ?_
        exact y_zret hB hE dc_M_belongsBefore_36 (Or.inl rfl) ⟨by rw [← hb, decide_eq_false (fun z => by have := (qt e).mp z; omega)]; rfl, rfl⟩
  · rw [yb_n, decide_eq_true_eq] at b1
    refine y_iconst (v := nI 1) (pc' := 20) hB dc_M_belongsBefore_19 rfl rfl ?_
    have e : zq od tg (a, t) < zq od tg b := by
      rcases Bool.eq_false_or_eq_true tg with e | e
      · exact (qt e).mpr (Or.inl b1)
      · exact (qf e).mpr b1
    exact y_zret hB hE dc_M_belongsBefore_20 (Or.inr rfl) ⟨by rw [← hb, decide_eq_true (e)]; rfl, rfl⟩
