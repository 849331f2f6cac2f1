/-! BENCH: runs and single -/
theorem dc_B_runs_0 : decode mb_B_runs 0 = .ok (.aload_n 0, 1) := by decide +kernel
theorem dc_B_runs_1 : decode mb_B_runs 1 = .ok (.iload_n 1, 1) := by decide +kernel
theorem dc_B_runs_2 : decode mb_B_runs 2 = .ok (.invokevirtual 49, 3) := by decide +kernel
theorem dc_B_runs_5 : decode mb_B_runs 5 = .ok (.astore_n 3, 1) := by decide +kernel
theorem dc_B_runs_6 : decode mb_B_runs 6 = .ok (.aload_n 0, 1) := by decide +kernel
theorem dc_B_runs_7 : decode mb_B_runs 7 = .ok (.iload_n 2, 1) := by decide +kernel
theorem dc_B_runs_8 : decode mb_B_runs 8 = .ok (.invokevirtual 159, 3) := by decide +kernel
theorem dc_B_runs_11 : decode mb_B_runs 11 = .ok (.iconst 0, 1) := by decide +kernel
theorem dc_B_runs_12 : decode mb_B_runs 12 = .ok (.istore 4, 2) := by decide +kernel
theorem dc_B_runs_14 : decode mb_B_runs 14 = .ok (.iconst 0, 1) := by decide +kernel
theorem dc_B_runs_15 : decode mb_B_runs 15 = .ok (.istore 5, 2) := by decide +kernel
theorem dc_B_runs_17 : decode mb_B_runs 17 = .ok (.iload 5, 2) := by decide +kernel
theorem dc_B_runs_19 : decode mb_B_runs 19 = .ok (.aload_n 3, 1) := by decide +kernel
theorem dc_B_runs_20 : decode mb_B_runs 20 = .ok (.getfield 53, 3) := by decide +kernel
theorem dc_B_runs_23 : decode mb_B_runs 23 = .ok (.if_icmp .ge 40, 3) := by decide +kernel
theorem dc_B_runs_26 : decode mb_B_runs 26 = .ok (.iload 4, 2) := by decide +kernel
theorem dc_B_runs_28 : decode mb_B_runs 28 = .ok (.aload_n 3, 1) := by decide +kernel
theorem dc_B_runs_29 : decode mb_B_runs 29 = .ok (.getfield 53, 3) := by decide +kernel
theorem dc_B_runs_32 : decode mb_B_runs 32 = .ok (.if_icmp .ge 31, 3) := by decide +kernel
theorem dc_B_runs_35 : decode mb_B_runs 35 = .ok (.aload_n 0, 1) := by decide +kernel
theorem dc_B_runs_36 : decode mb_B_runs 36 = .ok (.getfield 26, 3) := by decide +kernel
theorem dc_B_runs_39 : decode mb_B_runs 39 = .ok (.aload_n 3, 1) := by decide +kernel
theorem dc_B_runs_40 : decode mb_B_runs 40 = .ok (.iload 5, 2) := by decide +kernel
theorem dc_B_runs_42 : decode mb_B_runs 42 = .ok (.aload_n 0, 1) := by decide +kernel
theorem dc_B_runs_43 : decode mb_B_runs 43 = .ok (.getfield 26, 3) := by decide +kernel
theorem dc_B_runs_46 : decode mb_B_runs 46 = .ok (.aload_n 3, 1) := by decide +kernel
theorem dc_B_runs_47 : decode mb_B_runs 47 = .ok (.iload 5, 2) := by decide +kernel
theorem dc_B_runs_49 : decode mb_B_runs 49 = .ok (.invokevirtual 166, 3) := by decide +kernel
theorem dc_B_runs_52 : decode mb_B_runs 52 = .ok (.invokevirtual 170, 3) := by decide +kernel
theorem dc_B_runs_55 : decode mb_B_runs 55 = .ok (.istore 5, 2) := by decide +kernel
theorem dc_B_runs_57 : decode mb_B_runs 57 = .ok (.iinc 4 1, 3) := by decide +kernel
theorem dc_B_runs_60 : decode mb_B_runs 60 = .ok (.goto (-43), 3) := by decide +kernel
theorem dc_B_runs_63 : decode mb_B_runs 63 = .ok (.iload 4, 2) := by decide +kernel
theorem dc_B_runs_65 : decode mb_B_runs 65 = .ok (.ireturn, 1) := by decide +kernel
theorem dc_B_single_0 : decode mb_B_single 0 = .ok (.aload_n 0, 1) := by decide +kernel
theorem dc_B_single_1 : decode mb_B_single 1 = .ok (.iload_n 1, 1) := by decide +kernel
theorem dc_B_single_2 : decode mb_B_single 2 = .ok (.invokevirtual 49, 3) := by decide +kernel
theorem dc_B_single_5 : decode mb_B_single 5 = .ok (.astore_n 3, 1) := by decide +kernel
theorem dc_B_single_6 : decode mb_B_single 6 = .ok (.aload_n 0, 1) := by decide +kernel
theorem dc_B_single_7 : decode mb_B_single 7 = .ok (.iload_n 2, 1) := by decide +kernel
theorem dc_B_single_8 : decode mb_B_single 8 = .ok (.invokevirtual 159, 3) := by decide +kernel
theorem dc_B_single_11 : decode mb_B_single 11 = .ok (.aload_n 0, 1) := by decide +kernel
theorem dc_B_single_12 : decode mb_B_single 12 = .ok (.aload_n 3, 1) := by decide +kernel
theorem dc_B_single_13 : decode mb_B_single 13 = .ok (.invokevirtual 187, 3) := by decide +kernel
theorem dc_B_single_16 : decode mb_B_single 16 = .ok (.iconst 0, 1) := by decide +kernel
theorem dc_B_single_17 : decode mb_B_single 17 = .ok (.istore 4, 2) := by decide +kernel
theorem dc_B_single_19 : decode mb_B_single 19 = .ok (.iconst 0, 1) := by decide +kernel
theorem dc_B_single_20 : decode mb_B_single 20 = .ok (.istore 5, 2) := by decide +kernel
theorem dc_B_single_22 : decode mb_B_single 22 = .ok (.iload 5, 2) := by decide +kernel
theorem dc_B_single_24 : decode mb_B_single 24 = .ok (.aload_n 3, 1) := by decide +kernel
theorem dc_B_single_25 : decode mb_B_single 25 = .ok (.getfield 53, 3) := by decide +kernel
theorem dc_B_single_28 : decode mb_B_single 28 = .ok (.if_icmp .ge 44, 3) := by decide +kernel
theorem dc_B_single_31 : decode mb_B_single 31 = .ok (.iload 4, 2) := by decide +kernel
theorem dc_B_single_33 : decode mb_B_single 33 = .ok (.ifCond .eq 21, 3) := by decide +kernel
theorem dc_B_single_36 : decode mb_B_single 36 = .ok (.aload_n 0, 1) := by decide +kernel
theorem dc_B_single_37 : decode mb_B_single 37 = .ok (.getfield 26, 3) := by decide +kernel
theorem dc_B_single_40 : decode mb_B_single 40 = .ok (.aload_n 3, 1) := by decide +kernel
theorem dc_B_single_41 : decode mb_B_single 41 = .ok (.iload 4, 2) := by decide +kernel
theorem dc_B_single_43 : decode mb_B_single 43 = .ok (.iconst 1, 1) := by decide +kernel
theorem dc_B_single_44 : decode mb_B_single 44 = .ok (.isub, 1) := by decide +kernel
theorem dc_B_single_45 : decode mb_B_single 45 = .ok (.aload_n 3, 1) := by decide +kernel
theorem dc_B_single_46 : decode mb_B_single 46 = .ok (.iload 5, 2) := by decide +kernel
theorem dc_B_single_48 : decode mb_B_single 48 = .ok (.invokevirtual 200, 3) := by decide +kernel
theorem dc_B_single_51 : decode mb_B_single 51 = .ok (.ifCond .eq 15, 3) := by decide +kernel
theorem dc_B_single_54 : decode mb_B_single 54 = .ok (.aload_n 3, 1) := by decide +kernel
theorem dc_B_single_55 : decode mb_B_single 55 = .ok (.iload 4, 2) := by decide +kernel
theorem dc_B_single_57 : decode mb_B_single 57 = .ok (.aload_n 3, 1) := by decide +kernel
theorem dc_B_single_58 : decode mb_B_single 58 = .ok (.iload 5, 2) := by decide +kernel
theorem dc_B_single_60 : decode mb_B_single 60 = .ok (.invokevirtual 178, 3) := by decide +kernel
theorem dc_B_single_63 : decode mb_B_single 63 = .ok (.iinc 4 1, 3) := by decide +kernel
theorem dc_B_single_66 : decode mb_B_single 66 = .ok (.iinc 5 1, 3) := by decide +kernel
theorem dc_B_single_69 : decode mb_B_single 69 = .ok (.goto (-47), 3) := by decide +kernel
theorem dc_B_single_72 : decode mb_B_single 72 = .ok (.aload_n 3, 1) := by decide +kernel
theorem dc_B_single_73 : decode mb_B_single 73 = .ok (.iload 4, 2) := by decide +kernel
theorem dc_B_single_75 : decode mb_B_single 75 = .ok (.putfield 53, 3) := by decide +kernel
theorem dc_B_single_78 : decode mb_B_single 78 = .ok (.iload 4, 2) := by decide +kernel
theorem dc_B_single_80 : decode mb_B_single 80 = .ok (.ireturn, 1) := by decide +kernel
/-- on while the flag is the same -/
def zre (b : Nat → Bool) (n : Nat) (fl : Bool) : Nat → Nat → Nat
  | 0, j => j
  | d + 1, j => if j < n ∧ b j = fl then zre b n fl d (j + 1) else j
theorem zre_of {b : Nat → Bool} {n e : Nat} {fl : Bool} (he : e ≤ n) (h2 : e < n → b e ≠ fl) : ∀ d j, e - j ≤ d → j ≤ e → (∀ t, j ≤ t → t < e → b t = fl) → zre b n fl d j = e := by
  intro d
  induction d with
  | zero => intro j h1 h3 _; show j = e; omega
  | succ d ih =>
    intro j h1 h3 h4
    show (if j < n ∧ b j = fl then zre b n fl d (j + 1) else j) = e
    by_cases e1 : j = e
    · subst e1
      rw [if_neg (fun z => h2 z.1 z.2)]
    · rw [if_pos ⟨by omega, h4 j (Nat.le_refl _) (by omega)⟩]
      exact ih (j + 1) (by omega) (by omega) (fun t q1 q2 => h4 t (by omega) q2)
/-- how many runs from place i on -/
def zrn (b : Nat → Bool) (n : Nat) : Nat → Nat → Nat
  | 0, _ => 0
  | d + 1, i => if i < n then zrn b n d (zre b n (decide (i + 1 < n) && b (i + 1)) n (i + 1)) + 1 else 0
theorem zrn_end {b : Nat → Bool} {n d i : Nat} (h : n ≤ i) : zrn b n d i = 0 := by
  cases d with
  | zero => rfl
  | succ d => exact if_neg (by omega)
theorem zrn_on {b : Nat → Bool} {n d i e : Nat} {fl : Bool} (hi : i < n) (hfl : fl = (decide (i + 1 < n) && b (i + 1))) (h1 : i < e) (he : e ≤ n) (h2 : e < n → b e ≠ fl) (h3 : ∀ t, i < t → t < e → b t = fl) : zrn b n (d + 1) i = zrn b n d e + 1 := by
  show (if i < n then zrn b n d (zre b n (decide (i + 1 < n) && b (i + 1)) n (i + 1)) + 1 else 0) = _
  rw [if_pos hi, ← hfl, zre_of he h2 n (i + 1) (by omega) (by omega) (fun t q1 q2 => h3 t (by omega) q2)]
/-- one entry of each kind of alike ones that stand together -/
def zsl {α : Type} (r : α → Int) (f : Nat → α) : Nat → List α
  | 0 => []
  | n + 1 => match (zsl r f n).getLast? with
    | none => [f n]
    | some y => if r y < r (f n) then zsl r f n ++ [f n] else zsl r f n
theorem zsl_0 {α : Type} {r : α → Int} {f : Nat → α} {i : Nat} (h : zsl r f i = []) : zsl r f (i + 1) = [f i] := by
  show (match (zsl r f i).getLast? with | none => [f i] | some y => if r y < r (f i) then zsl r f i ++ [f i] else zsl r f i) = _
  rw [h]
  rfl
theorem zsl_s {α : Type} {r : α → Int} {f g : Nat → α} {i l : Nat} (h : zs g 0 (l + 1) = zsl r f i) : zsl r f (i + 1) = if r (g l) < r (f i) then zsl r f i ++ [f i] else zsl r f i := by
  have e : (zsl r f i).getLast? = some (g l) := by rw [← h, zs_succ, List.getLast?_concat, Nat.zero_add]
  show (match (zsl r f i).getLast? with | none => [f i] | some y => if r y < r (f i) then zsl r f i ++ [f i] else zsl r f i) = _
  rw [e]
set_option maxHeartbeats 4000000 in
set_option maxRecDepth 100000 in
theorem ct_B_runs (l : Launch) (g : YG) (S : YS) (k n : Nat) (hk : k < 4) (hn : n ≤ 1024) (hc : gF S (2 + k) 2 = nI n) (od : Nat) (ho : od < 8) : yC l mn_B_runs mb_B_runs 6 (some .int) 6 g [.ref (g.ad (0)), .int (nI (k)), .int (nI (od))] S (fun v S' => v = some (.int (nI (zrn (fun j => decide (zq od false ((ye S k) j) < zq od false ((ye S k) (j - 1)))) n (n + 1) 0))) ∧ yU S S') := by
  refine yC_of (by decide) (Nat.le_of_ble_eq_true rfl) ?_
  intro o hl hg hB0 hE
  subst hl
  subst hg
  have hB : yB o mb_B_runs "OrderBench" := hB0
  have hm := hE.1
  show yW o (S) 0 [(0, .ref (o.G.ad (0))), (1, .int (nI (k))), (2, .int (nI (od)))] []
  have hk6 : k < 6 := by omega
  refine y_aload_n (pc' := 1) hB dc_B_runs_0 rfl rfl 0 rfl ?_
  refine y_iload_n (pc' := 2) hB dc_B_runs_1 rfl rfl 1 rfl ?_
  refine y_callV (c := 0) (ci := 0) (As := [.int (nI (k))]) (rest := []) (pc' := 5) hB hE (ct_B_rowAt o.l o.G (S) k hk) mm_B_rowAt q_137 q_139 qs_0 (by decide) rfl rfl dc_B_runs_2 rfl (by decide) rfl rfl (Nat.le_of_ble_eq_true rfl) (fun v S' hpost => ?_)
  obtain ⟨rfl, hSS⟩ := hpost
  rw [hSS]
  clear hSS S'
  show yW o (S) 5 [(0, .ref (o.G.ad (0))), (1, .int (nI (k))), (2, .int (nI (od)))] [.ref (o.G.ad (2 + k))]
  refine y_astore_n (pc' := 6) (lv' := [(3, .ref (o.G.ad (2 + k))), (0, .ref (o.G.ad (0))), (1, .int (nI (k))), (2, .int (nI (od)))]) hB hm dc_B_runs_5 rfl rfl (by decide) rfl ?_
  refine y_aload_n (pc' := 7) hB dc_B_runs_6 rfl rfl 1 rfl ?_
  refine y_iload_n (pc' := 8) hB dc_B_runs_7 rfl rfl 3 rfl ?_
  refine y_callV (c := 0) (ci := 0) (As := [.int (nI (od))]) (rest := []) (pc' := 11) hB hE (ct_B_judgeBy o.l o.G S od ho) mm_B_judgeBy q_540 q_542 qs_8 (by decide) rfl rfl dc_B_runs_8 rfl (by decide) rfl rfl (Nat.le_of_ble_eq_true rfl) (fun v S' hpost => ?_)
  obtain ⟨rfl, hSS⟩ := hpost
  rw [hSS]
  clear hSS S'
  show yW o (yj S od false) 11 [(3, .ref (o.G.ad (2 + k))), (0, .ref (o.G.ad (0))), (1, .int (nI (k))), (2, .int (nI (od)))] []
  obtain ⟨b, hb⟩ : ∃ z : Nat → Bool, z = (fun j => decide (zq od false ((ye S k) j) < zq od false ((ye S k) (j - 1)))) := ⟨_, rfl⟩
  have hJ := yj_J S false ho
  refine y_iconst (v := nI 0) (pc' := 12) hB dc_B_runs_11 rfl rfl ?_
  refine y_istore (pc' := 14) (lv' := [(4, .int (nI (0))), (3, .ref (o.G.ad (2 + k))), (0, .ref (o.G.ad (0))), (1, .int (nI (k))), (2, .int (nI (od)))]) hB hm dc_B_runs_12 rfl (by decide) rfl ?_
  refine y_iconst (v := nI 0) (pc' := 15) hB dc_B_runs_14 rfl rfl ?_
  refine y_istore (pc' := 17) (lv' := [(5, .int (nI (0))), (4, .int (nI (0))), (3, .ref (o.G.ad (2 + k))), (0, .ref (o.G.ad (0))), (1, .int (nI (k))), (2, .int (nI (od)))]) hB hm dc_B_runs_15 rfl (by decide) rfl ?_
  have loop : ∀ (d : Nat) (i fd c1 fu : Nat), n - i < d → i ≤ n → fd ≤ i → n - i < fu → fd + zrn b n fu i = zrn b n (n + 1) 0 → yW o (yq (yj S od false) c1) 17 [(5, .int (nI (i))), (4, .int (nI (fd))), (3, .ref (o.G.ad (2 + k))), (0, .ref (o.G.ad (0))), (1, .int (nI (k))), (2, .int (nI (od)))] [] := by
    intro d
    induction d with
    | zero => intro i fd c1 fu hd; omega
    | succ d ih =>
      intro i fd c1 fu hd h1 h2 h3 h4
      refine y_iload (pc' := 19) hB dc_B_runs_17 rfl 0 rfl ?_
      refine y_aload_n (pc' := 20) hB dc_B_runs_19 rfl rfl 2 rfl ?_
      refine f_count (r := k) (pc' := 23) hB dc_B_runs_20 rfl (by omega) q_53 ?_
      refine y_topi (y := nI (n)) ((gF_yq (yj S od false) c1 k hk6).trans ((yj_n S od false hk6).trans hc)) ?_
      refine n_icmp_ge (pc' := 26) (tg := 63) hB dc_B_runs_23 rfl rfl (by omega) (by omega) (fun b1 => ?_) (fun b1 => ?_)
      · refine y_iload (pc' := 65) hB dc_B_runs_63 rfl 1 rfl ?_
        rw [zrn_end (by omega), Nat.add_zero] at h4
        exact y_iret hB hE dc_B_runs_65 ⟨by rw [h4, hb], (yU_yj S od false).tr (yU_yq _ _)⟩
      · refine y_iload (pc' := 28) hB dc_B_runs_26 rfl 1 rfl ?_
        refine y_aload_n (pc' := 29) hB dc_B_runs_28 rfl rfl 2 rfl ?_
        refine f_count (r := k) (pc' := 32) hB dc_B_runs_29 rfl (by omega) q_53 ?_
        refine y_topi (y := nI (n)) ((gF_yq (yj S od false) c1 k hk6).trans ((yj_n S od false hk6).trans hc)) ?_
        refine n_icmp_ge (pc' := 35) (tg := 63) hB dc_B_runs_32 rfl rfl (by omega) (by omega) (fun b2 => ?_) (fun b2 => ?_)
        · omega
        · refine y_aload_n (pc' := 36) hB dc_B_runs_35 rfl rfl 3 rfl ?_
          refine f_B_judge (pc' := 39) hB dc_B_runs_36 rfl q_105 ?_
          refine y_aload_n (pc' := 40) hB dc_B_runs_39 rfl rfl 2 rfl ?_
          refine y_iload (pc' := 42) hB dc_B_runs_40 rfl 0 rfl ?_
          refine y_aload_n (pc' := 43) hB dc_B_runs_42 rfl rfl 3 rfl ?_
          refine f_B_judge (pc' := 46) hB dc_B_runs_43 rfl q_105 ?_
          refine y_aload_n (pc' := 47) hB dc_B_runs_46 rfl rfl 2 rfl ?_
          refine y_iload (pc' := 49) hB dc_B_runs_47 rfl 0 rfl ?_
          refine y_callV (c := 20) (ci := 2) (As := [.ref (o.G.ad (2 + k)), .int (nI (i))]) (rest := [.int (nI (i)), .ref (o.G.ad (2 + k)), .ref (o.G.ad (20))]) (pc' := 52) hB hE (ct_J_falls o.l o.G (yq (yj S od false) c1) od false c1 (yJ_yq hJ c1) k hk6 n hn ((gF_yq (yj S od false) c1 k hk6).trans ((yj_n S od false hk6).trans hc)) i (by omega)) mm_J_falls q_556 q_463 q_464 (by decide) rfl rfl dc_B_runs_49 rfl (by decide) rfl rfl (Nat.le_of_ble_eq_true rfl) (fun v S' hpost => ?_)
          obtain ⟨c2, rfl, rfl, m1⟩ := hpost
          rw [yq_yq]
          show yW o (yq (yj S od false) c2) 52 [(5, .int (nI (i))), (4, .int (nI (fd))), (3, .ref (o.G.ad (2 + k))), (0, .ref (o.G.ad (0))), (1, .int (nI (k))), (2, .int (nI (od)))] [.int (yb (decide (i + 1 < n ∧ zq od false (ye (yq (yj S od false) c1) k (i + 1)) < zq od false (ye (yq (yj S od false) c1) k i)))), .int (nI (i)), .ref (o.G.ad (2 + k)), .ref (o.G.ad (20))]
          have hfl : decide (i + 1 < n ∧ zq od false (ye (yq (yj S od false) c1) k (i + 1)) < zq od false (ye (yq (yj S od false) c1) k i)) = (decide (i + 1 < n) && b (i + 1)) := by
            rw [hb]
            exact Bool.decide_and _ _
          rw [hfl]
          obtain ⟨fl, hfl2⟩ : ∃ z, z = (decide (i + 1 < n) && b (i + 1)) := ⟨_, rfl⟩
          rw [← hfl2]
          show yW o (yq (yj S od false) c2) 52 [(5, .int (nI (i))), (4, .int (nI (fd))), (3, .ref (o.G.ad (2 + k))), (0, .ref (o.G.ad (0))), (1, .int (nI (k))), (2, .int (nI (od)))] [.int (yb fl), .int (nI (i)), .ref (o.G.ad (2 + k)), .ref (o.G.ad (20))]
          refine y_callV (c := 20) (ci := 2) (As := [.ref (o.G.ad (2 + k)), .int (nI (i)), .int (yb fl)]) (rest := []) (pc' := 55) hB hE (ct_J_runEnd o.l o.G (yq (yj S od false) c2) od false c2 (yJ_yq hJ c2) k hk6 n hn ((gF_yq (yj S od false) c2 k hk6).trans ((yj_n S od false hk6).trans hc)) i b1 fl) mm_J_runEnd q_557 q_471 q_472 (by decide) rfl rfl dc_B_runs_52 rfl (by decide) rfl rfl (Nat.le_of_ble_eq_true rfl) (fun v S' hpost => ?_)
          obtain ⟨e, c3, rfl, rfl, g1, g2, g3, g4, g5⟩ := hpost
          rw [yq_yq]
          show yW o (yq (yj S od false) c3) 55 [(5, .int (nI (i))), (4, .int (nI (fd))), (3, .ref (o.G.ad (2 + k))), (0, .ref (o.G.ad (0))), (1, .int (nI (k))), (2, .int (nI (od)))] [.int (nI (e))]
          obtain ⟨fu2, rfl⟩ : ∃ z, fu = z + 1 := ⟨fu - 1, by omega⟩
          have h5 : ∀ t, i < t → t < e → b t = fl := by
            intro t q1 q2
            by_cases q3 : t = i + 1
            · rw [q3, hfl2, decide_eq_true (show i + 1 < n by omega), Bool.true_and]
            · rw [hb]; exact g3 t (by omega) q2
          rw [zrn_on (b := b) (d := fu2) (e := e) b1 hfl2 (by omega) g2 (fun q => by rw [hb]; exact g4 q) h5] at h4
          refine y_istore (pc' := 57) (lv' := [(5, .int (nI (e))), (4, .int (nI (fd))), (3, .ref (o.G.ad (2 + k))), (0, .ref (o.G.ad (0))), (1, .int (nI (k))), (2, .int (nI (od)))]) hB hm dc_B_runs_55 rfl (by decide) rfl ?_
          refine n_inc (q := 1) (z := 1) (pc' := 60) (lv' := [(4, .int (nI (fd + 1))), (5, .int (nI (e))), (3, .ref (o.G.ad (2 + k))), (0, .ref (o.G.ad (0))), (1, .int (nI (k))), (2, .int (nI (od)))]) hB hm dc_B_runs_57 rfl rfl (by decide) rfl ?_
          refine y_goto (tg := 17) hB dc_B_runs_60 rfl ?_
          refine y_sub [1, 0, 2, 3, 4, 5] rfl ?_
          exact ih e (fd + 1) c3 fu2 (by omega) g2 (by omega) (by omega) (by omega)
  have h0 := loop (n + 1) 0 0 0 (n + 1) (by omega) (by omega) (by omega) (by omega) (by omega)
  rw [yq_self hJ] at h0
  exact h0
set_option maxHeartbeats 4000000 in
set_option maxRecDepth 100000 in
theorem ct_B_single (l : Launch) (g : YG) (S : YS) (k n : Nat) (hk : k < 4) (hn : n ≤ 1024) (hc : gF S (2 + k) 2 = nI n) (od : Nat) (ho : od < 8) (hs : zo (zq od false) (zs (ye S k) 0 n)) : yC l mn_B_single mb_B_single 6 (some .int) 7 g [.ref (g.ad (0)), .int (nI (k)), .int (nI (od))] S (fun v S' => ∃ f' m, v = some (.int (nI m)) ∧ yU (sF (yz S k f') (2 + k) 2 (nI m)) S' ∧ m ≤ n ∧ zs f' 0 m = zsl (zq od false) (ye S k) n) := by
  refine yC_of (by decide) (Nat.le_of_ble_eq_true rfl) ?_
  intro o hl hg hB0 hE
  subst hl
  subst hg
  have hB : yB o mb_B_single "OrderBench" := hB0
  have hm := hE.1
  show yW o (S) 0 [(0, .ref (o.G.ad (0))), (1, .int (nI (k))), (2, .int (nI (od)))] []
  have hk6 : k < 6 := by omega
  refine y_aload_n (pc' := 1) hB dc_B_single_0 rfl rfl 0 rfl ?_
  refine y_iload_n (pc' := 2) hB dc_B_single_1 rfl rfl 1 rfl ?_
  refine y_callV (c := 0) (ci := 0) (As := [.int (nI (k))]) (rest := []) (pc' := 5) hB hE (ct_B_rowAt o.l o.G (S) k hk) mm_B_rowAt q_137 q_139 qs_0 (by decide) rfl rfl dc_B_single_2 rfl (by decide) rfl rfl (Nat.le_of_ble_eq_true rfl) (fun v S' hpost => ?_)
  obtain ⟨rfl, hSS⟩ := hpost
  rw [hSS]
  clear hSS S'
  show yW o (S) 5 [(0, .ref (o.G.ad (0))), (1, .int (nI (k))), (2, .int (nI (od)))] [.ref (o.G.ad (2 + k))]
  refine y_astore_n (pc' := 6) (lv' := [(3, .ref (o.G.ad (2 + k))), (0, .ref (o.G.ad (0))), (1, .int (nI (k))), (2, .int (nI (od)))]) hB hm dc_B_single_5 rfl rfl (by decide) rfl ?_
  refine y_aload_n (pc' := 7) hB dc_B_single_6 rfl rfl 1 rfl ?_
  refine y_iload_n (pc' := 8) hB dc_B_single_7 rfl rfl 3 rfl ?_
  refine y_callV (c := 0) (ci := 0) (As := [.int (nI (od))]) (rest := []) (pc' := 11) hB hE (ct_B_judgeBy o.l o.G S od ho) mm_B_judgeBy q_540 q_542 qs_8 (by decide) rfl rfl dc_B_single_8 rfl (by decide) rfl rfl (Nat.le_of_ble_eq_true rfl) (fun v S' hpost => ?_)
  obtain ⟨rfl, hSS⟩ := hpost
  rw [hSS]
  clear hSS S'
  show yW o (yj S od false) 11 [(3, .ref (o.G.ad (2 + k))), (0, .ref (o.G.ad (0))), (1, .int (nI (k))), (2, .int (nI (od)))] []
  have hJ := yj_J S false ho
  refine y_aload_n (pc' := 12) hB dc_B_single_11 rfl rfl 1 rfl ?_
  refine y_aload_n (pc' := 13) hB dc_B_single_12 rfl rfl 0 rfl ?_
  refine y_callV (c := 0) (ci := 0) (As := [.ref (o.G.ad (2 + k))]) (rest := []) (pc' := 16) hB hE (ct_B_checkInOrder o.l o.G (yj S od false) od false 0 hJ k hk6 n hn ((yj_n S od false hk6).trans hc) hs) mm_B_checkInOrder q_589 q_591 qs_10 (by decide) rfl rfl dc_B_single_13 rfl (by decide) rfl rfl (Nat.le_of_ble_eq_true rfl) (fun v S' hpost => ?_)
  obtain ⟨c0, rfl, rfl⟩ := hpost
  show yW o (yq (yj S od false) c0) 16 [(3, .ref (o.G.ad (2 + k))), (0, .ref (o.G.ad (0))), (1, .int (nI (k))), (2, .int (nI (od)))] []
  refine y_iconst (v := nI 0) (pc' := 17) hB dc_B_single_16 rfl rfl ?_
  refine y_istore (pc' := 19) (lv' := [(4, .int (nI (0))), (3, .ref (o.G.ad (2 + k))), (0, .ref (o.G.ad (0))), (1, .int (nI (k))), (2, .int (nI (od)))]) hB hm dc_B_single_17 rfl (by decide) rfl ?_
  refine y_iconst (v := nI 0) (pc' := 20) hB dc_B_single_19 rfl rfl ?_
  refine y_istore (pc' := 22) (lv' := [(5, .int (nI (0))), (4, .int (nI (0))), (3, .ref (o.G.ad (2 + k))), (0, .ref (o.G.ad (0))), (1, .int (nI (k))), (2, .int (nI (od)))]) hB hm dc_B_single_20 rfl (by decide) rfl ?_
  have loop : ∀ (d : Nat) (i l c1 : Nat) (f1 : Nat → Int64 × Int32), n - i < d → i ≤ n → l ≤ i → zs f1 0 l = zsl (zq od false) (ye S k) i → (∀ j, i ≤ j → f1 j = (ye S k) j) → yW o (yq (yz (yj S od false) k f1) c1) 22 [(5, .int (nI (i))), (4, .int (nI (l))), (3, .ref (o.G.ad (2 + k))), (0, .ref (o.G.ad (0))), (1, .int (nI (k))), (2, .int (nI (od)))] [] := by
    intro d
    induction d with
    | zero => intro i l c1 f1 hd; omega
    | succ d ih =>
      intro i l c1 f1 hd h1 h2 h3 h4
      have hr1 : ye (yz (yj S od false) k f1) k = f1 := ye_yz _ k f1
      have take : ∀ c2, i < n → zsl (zq od false) (ye S k) (i + 1) = zsl (zq od false) (ye S k) i ++ [(ye S k) i] → yW o (yq (yz (yj S od false) k f1) c2) 54 [(5, .int (nI (i))), (4, .int (nI (l))), (3, .ref (o.G.ad (2 + k))), (0, .ref (o.G.ad (0))), (1, .int (nI (k))), (2, .int (nI (od)))] [] := by
        intro c2 q0 q1
        refine y_aload_n (pc' := 55) hB dc_B_single_54 rfl rfl 2 rfl ?_
        refine y_iload (pc' := 57) hB dc_B_single_55 rfl 1 rfl ?_
        refine y_aload_n (pc' := 58) hB dc_B_single_57 rfl rfl 2 rfl ?_
        refine y_iload (pc' := 60) hB dc_B_single_58 rfl 0 rfl ?_
        refine y_callV (c := 2 + k) (ci := 1) (As := [.int (nI (l)), .ref (o.G.ad (2 + k)), .int (nI (i))]) (rest := []) (pc' := 63) hB hE (ct_R_take o.l o.G (yq (yz (yj S od false) k f1) c2) k hk6 k hk6 l i (by omega) (by omega)) mm_R_take q_580 q_292 q_293 (by unfold yN; omega) (yk_row (by omega)).1 rfl dc_B_single_60 rfl (by decide) rfl rfl (Nat.le_of_ble_eq_true rfl) (fun v S' hpost => ?_)
        obtain ⟨rfl, hSS⟩ := hpost
        rw [hSS]
        clear hSS S'
        show yW o (yz (yq (yz (yj S od false) k f1) c2) k (va_up (ye (yq (yz (yj S od false) k f1) c2) k) l (ye (yq (yz (yj S od false) k f1) c2) k i))) 63 [(5, .int (nI (i))), (4, .int (nI (l))), (3, .ref (o.G.ad (2 + k))), (0, .ref (o.G.ad (0))), (1, .int (nI (k))), (2, .int (nI (od)))] []
        have hS : yz (yq (yz (yj S od false) k f1) c2) k (va_up (ye (yq (yz (yj S od false) k f1) c2) k) l (ye (yq (yz (yj S od false) k f1) c2) k i)) = yq (yz (yj S od false) k (va_up f1 l ((ye S k) i))) c2 := by
          rw [ye_yq, hr1, h4 i (Nat.le_refl _)]
          show yq (yz (yz (yj S od false) k _) k _) _ = _
          rw [yz_yz]
        rw [hS]
        refine n_inc (q := 1) (z := 1) (pc' := 66) (lv' := [(4, .int (nI (l + 1))), (5, .int (nI (i))), (3, .ref (o.G.ad (2 + k))), (0, .ref (o.G.ad (0))), (1, .int (nI (k))), (2, .int (nI (od)))]) hB hm dc_B_single_63 rfl rfl (by decide) rfl ?_
        refine n_inc (q := 1) (z := 1) (pc' := 69) (lv' := [(5, .int (nI (i + 1))), (4, .int (nI (l + 1))), (3, .ref (o.G.ad (2 + k))), (0, .ref (o.G.ad (0))), (1, .int (nI (k))), (2, .int (nI (od)))]) hB hm dc_B_single_66 rfl rfl (by decide) rfl ?_
        refine y_goto (tg := 22) hB dc_B_single_69 rfl ?_
        refine y_sub [0, 1, 2, 3, 4, 5] rfl ?_
        refine ih (i + 1) (l + 1) c2 _ (by omega) q0 (by omega) ?_ (fun j hj => ?_)
        · have e := zs_up_end f1 ((ye S k) i) (Nat.zero_le l)
          rw [Nat.sub_zero, Nat.sub_zero] at e
          rw [e, q1, h3]
        · rw [va_up_ne _ _ (by omega)]; exact h4 j (by omega)
      refine y_iload (pc' := 24) hB dc_B_single_22 rfl 0 rfl ?_
      refine y_aload_n (pc' := 25) hB dc_B_single_24 rfl rfl 2 rfl ?_
      refine f_count (r := k) (pc' := 28) hB dc_B_single_25 rfl (by omega) q_53 ?_
      refine y_topi (y := nI (n)) ((gF_yq (yz (yj S od false) k f1) c1 k hk6).trans ((yj_n S od false hk6).trans hc)) ?_
      refine n_icmp_ge (pc' := 31) (tg := 72) hB dc_B_single_28 rfl rfl (by omega) (by omega) (fun b1 => ?_) (fun b1 => ?_)
      · have e : i = n := by omega
        subst e
        refine y_aload_n (pc' := 73) hB dc_B_single_72 rfl rfl 2 rfl ?_
        refine y_iload (pc' := 75) hB dc_B_single_73 rfl 1 rfl ?_
        refine p_count (r := k) (pc' := 78) hB dc_B_single_75 rfl (by omega) q_53 ?_
        refine y_iload (pc' := 80) hB dc_B_single_78 rfl 1 rfl ?_
        exact y_iret hB hE dc_B_single_80 ⟨f1, l, rfl, yU.F (((yU_yj S od false).z hk f1).tr (yU_yq _ _)) _ _ _, h2, h3⟩
      · refine y_iload (pc' := 33) hB dc_B_single_31 rfl 1 rfl ?_
        refine n_if_eq (pc' := 36) (tg := 54) hB dc_B_single_33 rfl rfl (by omega) (fun b2 => ?_) (fun b2 => ?_)
        · subst b2
          rw [zs_zero] at h3
          exact take c1 b1 (by rw [zsl_0 h3.symm, ← h3]; rfl)
        · refine y_aload_n (pc' := 37) hB dc_B_single_36 rfl rfl 3 rfl ?_
          refine f_B_judge (pc' := 40) hB dc_B_single_37 rfl q_105 ?_
          refine y_aload_n (pc' := 41) hB dc_B_single_40 rfl rfl 2 rfl ?_
          refine y_iload (pc' := 43) hB dc_B_single_41 rfl 1 rfl ?_
          refine y_iconst (v := nI 1) (pc' := 44) hB dc_B_single_43 rfl rfl ?_
          refine n_isub (x := l) (y := 1) (pc' := 45) hB dc_B_single_44 rfl (by omega) ?_
          refine y_aload_n (pc' := 46) hB dc_B_single_45 rfl rfl 2 rfl ?_
          refine y_iload (pc' := 48) hB dc_B_single_46 rfl 0 rfl ?_
          refine y_callV (c := 20) (ci := 2) (As := [.ref (o.G.ad (2 + k)), .int (nI (l - 1)), .ref (o.G.ad (2 + k)), .int (nI (i))]) (rest := []) (pc' := 51) hB hE (ct_J_before o.l o.G (yq (yz (yj S od false) k f1) c1) od false c1 (yJ_yq (yJ_yz hJ k f1) c1) k hk6 k hk6 (l - 1) i (by omega) (by omega)) mm_J_before q_611 q_405 q_406 (by decide) rfl rfl dc_B_single_48 rfl (by decide) rfl rfl (Nat.le_of_ble_eq_true rfl) (fun v S' hpost => ?_)
          obtain ⟨rfl, hSS⟩ := hpost
          rw [hSS]
          clear hSS S'
          show yW o (yq (yq (yz (yj S od false) k f1) c1) (c1 + 1)) 51 [(5, .int (nI (i))), (4, .int (nI (l))), (3, .ref (o.G.ad (2 + k))), (0, .ref (o.G.ad (0))), (1, .int (nI (k))), (2, .int (nI (od)))] [.int (yb (decide (zq od false (ye (yq (yz (yj S od false) k f1) c1) k (l - 1)) < zq od false (ye (yq (yz (yj S od false) k f1) c1) k i))))]
          rw [yq_yq, ye_yq, hr1, h4 i (Nat.le_refl _)]
          have hsl := zsl_s (r := zq od false) (f := ye S k) (g := f1) (i := i) (l := l - 1) (by rw [show l - 1 + 1 = l by omega]; exact h3)
          refine y_if_eq (x := yb (decide (zq od false (f1 (l - 1)) < zq od false ((ye S k) i)))) (pc' := 54) (tg := 66) hB dc_B_single_51 rfl rfl (fun b3 => ?_) (fun b3 => ?_)
          · rw [yb_0, decide_eq_false_iff_not] at b3
            rw [if_neg b3] at hsl
            refine n_inc (q := 0) (z := 1) (pc' := 69) (lv' := [(5, .int (nI (i + 1))), (4, .int (nI (l))), (3, .ref (o.G.ad (2 + k))), (0, .ref (o.G.ad (0))), (1, .int (nI (k))), (2, .int (nI (od)))]) hB hm dc_B_single_66 rfl rfl (by decide) rfl ?_
            refine y_goto (tg := 22) hB dc_B_single_69 rfl ?_
            refine y_sub [0, 1, 2, 3, 4, 5] rfl ?_
            exact ih (i + 1) l (c1 + 1) f1 (by omega) b1 (by omega) (by rw [hsl]; exact h3) (fun j hj => h4 j (by omega))
          · rw [yb_n, decide_eq_true_eq] at b3
            rw [if_pos b3] at hsl
            exact take (c1 + 1) b1 hsl
  have h0 := loop (n + 1) 0 0 c0 (ye S k) (by omega) (by omega) (by omega) (zs_zero _ _) (fun _ _ => rfl)
  rw [show yz (yj S od false) k (ye S k) = yj S od false from yz_self (yj S od false) k] at h0
  exact h0
