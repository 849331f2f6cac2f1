/-! REFERENCE: runs, find -/
theorem dc_M_runs_0 : decode mb_M_runs 0 = .ok (.aload_n 0, 1) := by decide +kernel
theorem dc_M_runs_1 : decode mb_M_runs 1 = .ok (.iload_n 1, 1) := by decide +kernel
theorem dc_M_runs_2 : decode mb_M_runs 2 = .ok (.invokevirtual 56, 3) := by decide +kernel
theorem dc_M_runs_5 : decode mb_M_runs 5 = .ok (.ifCond .ne 11, 3) := by decide +kernel
theorem dc_M_runs_8 : decode mb_M_runs 8 = .ok (.aload_n 0, 1) := by decide +kernel
theorem dc_M_runs_9 : decode mb_M_runs 9 = .ok (.iload_n 2, 1) := by decide +kernel
theorem dc_M_runs_10 : decode mb_M_runs 10 = .ok (.invokevirtual 81, 3) := by decide +kernel
theorem dc_M_runs_13 : decode mb_M_runs 13 = .ok (.ifCond .eq 5, 3) := by decide +kernel
theorem dc_M_runs_16 : decode mb_M_runs 16 = .ok (.iconst 0, 1) := by decide +kernel
theorem dc_M_runs_17 : decode mb_M_runs 17 = .ok (.ireturn, 1) := by decide +kernel
theorem dc_M_runs_18 : decode mb_M_runs 18 = .ok (.iconst 0, 1) := by decide +kernel
theorem dc_M_runs_19 : decode mb_M_runs 19 = .ok (.istore_n 3, 1) := by decide +kernel
theorem dc_M_runs_20 : decode mb_M_runs 20 = .ok (.iconst 0, 1) := by decide +kernel
theorem dc_M_runs_21 : decode mb_M_runs 21 = .ok (.istore 4, 2) := by decide +kernel
theorem dc_M_runs_23 : decode mb_M_runs 23 = .ok (.iload 4, 2) := by decide +kernel
theorem dc_M_runs_25 : decode mb_M_runs 25 = .ok (.aload_n 0, 1) := by decide +kernel
theorem dc_M_runs_26 : decode mb_M_runs 26 = .ok (.getfield 17, 3) := by decide +kernel
theorem dc_M_runs_29 : decode mb_M_runs 29 = .ok (.iload_n 1, 1) := by decide +kernel
theorem dc_M_runs_30 : decode mb_M_runs 30 = .ok (.iaload, 1) := by decide +kernel
theorem dc_M_runs_31 : decode mb_M_runs 31 = .ok (.if_icmp .ge 75, 3) := by decide +kernel
theorem dc_M_runs_34 : decode mb_M_runs 34 = .ok (.iinc 3 1, 3) := by decide +kernel
theorem dc_M_runs_37 : decode mb_M_runs 37 = .ok (.iload 4, 2) := by decide +kernel
theorem dc_M_runs_39 : decode mb_M_runs 39 = .ok (.iconst 1, 1) := by decide +kernel
theorem dc_M_runs_40 : decode mb_M_runs 40 = .ok (.iadd, 1) := by decide +kernel
theorem dc_M_runs_41 : decode mb_M_runs 41 = .ok (.aload_n 0, 1) := by decide +kernel
theorem dc_M_runs_42 : decode mb_M_runs 42 = .ok (.getfield 17, 3) := by decide +kernel
theorem dc_M_runs_45 : decode mb_M_runs 45 = .ok (.iload_n 1, 1) := by decide +kernel
theorem dc_M_runs_46 : decode mb_M_runs 46 = .ok (.iaload, 1) := by decide +kernel
theorem dc_M_runs_47 : decode mb_M_runs 47 = .ok (.if_icmp .ge 20, 3) := by decide +kernel
theorem dc_M_runs_50 : decode mb_M_runs 50 = .ok (.aload_n 0, 1) := by decide +kernel
theorem dc_M_runs_51 : decode mb_M_runs 51 = .ok (.iload_n 1, 1) := by decide +kernel
theorem dc_M_runs_52 : decode mb_M_runs 52 = .ok (.iload_n 2, 1) := by decide +kernel
theorem dc_M_runs_53 : decode mb_M_runs 53 = .ok (.iload 4, 2) := by decide +kernel
theorem dc_M_runs_55 : decode mb_M_runs 55 = .ok (.iconst 1, 1) := by decide +kernel
theorem dc_M_runs_56 : decode mb_M_runs 56 = .ok (.iadd, 1) := by decide +kernel
theorem dc_M_runs_57 : decode mb_M_runs 57 = .ok (.invokevirtual 98, 3) := by decide +kernel
theorem dc_M_runs_60 : decode mb_M_runs 60 = .ok (.ifCond .eq 7, 3) := by decide +kernel
theorem dc_M_runs_63 : decode mb_M_runs 63 = .ok (.iconst 1, 1) := by decide +kernel
theorem dc_M_runs_64 : decode mb_M_runs 64 = .ok (.goto 4, 3) := by decide +kernel
theorem dc_M_runs_67 : decode mb_M_runs 67 = .ok (.iconst 0, 1) := by decide +kernel
theorem dc_M_runs_68 : decode mb_M_runs 68 = .ok (.istore 5, 2) := by decide +kernel
theorem dc_M_runs_70 : decode mb_M_runs 70 = .ok (.iinc 4 1, 3) := by decide +kernel
theorem dc_M_runs_73 : decode mb_M_runs 73 = .ok (.iload 4, 2) := by decide +kernel
theorem dc_M_runs_75 : decode mb_M_runs 75 = .ok (.aload_n 0, 1) := by decide +kernel
theorem dc_M_runs_76 : decode mb_M_runs 76 = .ok (.getfield 17, 3) := by decide +kernel
theorem dc_M_runs_79 : decode mb_M_runs 79 = .ok (.iload_n 1, 1) := by decide +kernel
theorem dc_M_runs_80 : decode mb_M_runs 80 = .ok (.iaload, 1) := by decide +kernel
theorem dc_M_runs_81 : decode mb_M_runs 81 = .ok (.if_icmp .ge 22, 3) := by decide +kernel
theorem dc_M_runs_84 : decode mb_M_runs 84 = .ok (.aload_n 0, 1) := by decide +kernel
theorem dc_M_runs_85 : decode mb_M_runs 85 = .ok (.iload_n 1, 1) := by decide +kernel
theorem dc_M_runs_86 : decode mb_M_runs 86 = .ok (.iload_n 2, 1) := by decide +kernel
theorem dc_M_runs_87 : decode mb_M_runs 87 = .ok (.iload 4, 2) := by decide +kernel
theorem dc_M_runs_89 : decode mb_M_runs 89 = .ok (.invokevirtual 98, 3) := by decide +kernel
theorem dc_M_runs_92 : decode mb_M_runs 92 = .ok (.iload 5, 2) := by decide +kernel
theorem dc_M_runs_94 : decode mb_M_runs 94 = .ok (.if_icmp .ne 9, 3) := by decide +kernel
theorem dc_M_runs_97 : decode mb_M_runs 97 = .ok (.iinc 4 1, 3) := by decide +kernel
theorem dc_M_runs_100 : decode mb_M_runs 100 = .ok (.goto (-27), 3) := by decide +kernel
theorem dc_M_runs_103 : decode mb_M_runs 103 = .ok (.goto (-80), 3) := by decide +kernel
theorem dc_M_runs_106 : decode mb_M_runs 106 = .ok (.iload_n 3, 1) := by decide +kernel
theorem dc_M_runs_107 : decode mb_M_runs 107 = .ok (.ireturn, 1) := by decide +kernel
theorem dc_M_find_0 : decode mb_M_find 0 = .ok (.aload_n 0, 1) := by decide +kernel
theorem dc_M_find_1 : decode mb_M_find 1 = .ok (.iload_n 1, 1) := by decide +kernel
theorem dc_M_find_2 : decode mb_M_find 2 = .ok (.invokevirtual 56, 3) := by decide +kernel
theorem dc_M_find_5 : decode mb_M_find 5 = .ok (.ifCond .ne 11, 3) := by decide +kernel
theorem dc_M_find_8 : decode mb_M_find 8 = .ok (.aload_n 0, 1) := by decide +kernel
theorem dc_M_find_9 : decode mb_M_find 9 = .ok (.iload_n 2, 1) := by decide +kernel
theorem dc_M_find_10 : decode mb_M_find 10 = .ok (.invokevirtual 81, 3) := by decide +kernel
theorem dc_M_find_13 : decode mb_M_find 13 = .ok (.ifCond .eq 5, 3) := by decide +kernel
theorem dc_M_find_16 : decode mb_M_find 16 = .ok (.iconst 0, 1) := by decide +kernel
theorem dc_M_find_17 : decode mb_M_find 17 = .ok (.ireturn, 1) := by decide +kernel
theorem dc_M_find_18 : decode mb_M_find 18 = .ok (.aload_n 0, 1) := by decide +kernel
theorem dc_M_find_19 : decode mb_M_find 19 = .ok (.aload_n 0, 1) := by decide +kernel
theorem dc_M_find_20 : decode mb_M_find 20 = .ok (.iload_n 1, 1) := by decide +kernel
theorem dc_M_find_21 : decode mb_M_find 21 = .ok (.iload_n 2, 1) := by decide +kernel
theorem dc_M_find_22 : decode mb_M_find 22 = .ok (.invokevirtual 95, 3) := by decide +kernel
theorem dc_M_find_25 : decode mb_M_find 25 = .ok (.ifCond .eq 7, 3) := by decide +kernel
theorem dc_M_find_28 : decode mb_M_find 28 = .ok (.iconst 0, 1) := by decide +kernel
theorem dc_M_find_29 : decode mb_M_find 29 = .ok (.goto 4, 3) := by decide +kernel
theorem dc_M_find_32 : decode mb_M_find 32 = .ok (.iconst 3, 1) := by decide +kernel
theorem dc_M_find_33 : decode mb_M_find 33 = .ok (.putfield 29, 3) := by decide +kernel
theorem dc_M_find_36 : decode mb_M_find 36 = .ok (.iconst 0, 1) := by decide +kernel
theorem dc_M_find_37 : decode mb_M_find 37 = .ok (.istore 6, 2) := by decide +kernel
theorem dc_M_find_39 : decode mb_M_find 39 = .ok (.iconst 0, 1) := by decide +kernel
theorem dc_M_find_40 : decode mb_M_find 40 = .ok (.istore 7, 2) := by decide +kernel
theorem dc_M_find_42 : decode mb_M_find 42 = .ok (.iload 7, 2) := by decide +kernel
theorem dc_M_find_44 : decode mb_M_find 44 = .ok (.aload_n 0, 1) := by decide +kernel
theorem dc_M_find_45 : decode mb_M_find 45 = .ok (.getfield 17, 3) := by decide +kernel
theorem dc_M_find_48 : decode mb_M_find 48 = .ok (.iload_n 1, 1) := by decide +kernel
theorem dc_M_find_49 : decode mb_M_find 49 = .ok (.iaload, 1) := by decide +kernel
theorem dc_M_find_50 : decode mb_M_find 50 = .ok (.if_icmp .ge 67, 3) := by decide +kernel
theorem dc_M_find_53 : decode mb_M_find 53 = .ok (.aload_n 0, 1) := by decide +kernel
theorem dc_M_find_54 : decode mb_M_find 54 = .ok (.getfield 29, 3) := by decide +kernel
theorem dc_M_find_57 : decode mb_M_find 57 = .ok (.ifCond .ne 60, 3) := by decide +kernel
theorem dc_M_find_60 : decode mb_M_find 60 = .ok (.aload_n 0, 1) := by decide +kernel
theorem dc_M_find_61 : decode mb_M_find 61 = .ok (.getfield 7, 3) := by decide +kernel
theorem dc_M_find_64 : decode mb_M_find 64 = .ok (.sipush 1024, 3) := by decide +kernel
theorem dc_M_find_67 : decode mb_M_find 67 = .ok (.iload_n 1, 1) := by decide +kernel
theorem dc_M_find_68 : decode mb_M_find 68 = .ok (.imul, 1) := by decide +kernel
theorem dc_M_find_69 : decode mb_M_find 69 = .ok (.iload 7, 2) := by decide +kernel
theorem dc_M_find_71 : decode mb_M_find 71 = .ok (.iadd, 1) := by decide +kernel
theorem dc_M_find_72 : decode mb_M_find 72 = .ok (.laload, 1) := by decide +kernel
theorem dc_M_find_73 : decode mb_M_find 73 = .ok (.lstore 8, 2) := by decide +kernel
theorem dc_M_find_75 : decode mb_M_find 75 = .ok (.iload_n 2, 1) := by decide +kernel
theorem dc_M_find_76 : decode mb_M_find 76 = .ok (.lload 8, 2) := by decide +kernel
theorem dc_M_find_78 : decode mb_M_find 78 = .ok (.lload_n 3, 1) := by decide +kernel
theorem dc_M_find_79 : decode mb_M_find 79 = .ok (.invokestatic 52, 3) := by decide +kernel
theorem dc_M_find_82 : decode mb_M_find 82 = .ok (.ifCond .ne 18, 3) := by decide +kernel
theorem dc_M_find_85 : decode mb_M_find 85 = .ok (.iload 5, 2) := by decide +kernel
theorem dc_M_find_87 : decode mb_M_find 87 = .ok (.ifCond .eq 20, 3) := by decide +kernel
theorem dc_M_find_90 : decode mb_M_find 90 = .ok (.iload_n 2, 1) := by decide +kernel
theorem dc_M_find_91 : decode mb_M_find 91 = .ok (.lload 8, 2) := by decide +kernel
theorem dc_M_find_93 : decode mb_M_find 93 = .ok (.lload_n 3, 1) := by decide +kernel
theorem dc_M_find_94 : decode mb_M_find 94 = .ok (.invokestatic 102, 3) := by decide +kernel
theorem dc_M_find_97 : decode mb_M_find 97 = .ok (.ifCond .eq 10, 3) := by decide +kernel
theorem dc_M_find_100 : decode mb_M_find 100 = .ok (.iload 6, 2) := by decide +kernel
theorem dc_M_find_102 : decode mb_M_find 102 = .ok (.iconst 1, 1) := by decide +kernel
theorem dc_M_find_103 : decode mb_M_find 103 = .ok (.iadd, 1) := by decide +kernel
theorem dc_M_find_104 : decode mb_M_find 104 = .ok (.goto 5, 3) := by decide +kernel
theorem dc_M_find_107 : decode mb_M_find 107 = .ok (.iload 6, 2) := by decide +kernel
theorem dc_M_find_109 : decode mb_M_find 109 = .ok (.istore 6, 2) := by decide +kernel
theorem dc_M_find_111 : decode mb_M_find 111 = .ok (.iinc 7 1, 3) := by decide +kernel
theorem dc_M_find_114 : decode mb_M_find 114 = .ok (.goto (-72), 3) := by decide +kernel
theorem dc_M_find_117 : decode mb_M_find 117 = .ok (.iload 6, 2) := by decide +kernel
theorem dc_M_find_119 : decode mb_M_find 119 = .ok (.ireturn, 1) := by decide +kernel
/-- how many of the first n have it -/
def zfn (b : Nat → Bool) : Nat → Nat
  | 0 => 0
  | n + 1 => zfn b n + (if b n then 1 else 0)
theorem zfn_of {b : Nat → Bool} {p : Nat} : ∀ n, p ≤ n → (∀ j, j < p → b j = true) → (∀ j, p ≤ j → j < n → b j = false) → zfn b n = p := by
  intro n
  induction n with
  | zero => intro h _ _; show 0 = p; omega
  | succ n ih =>
    intro h h1 h2
    show zfn b n + (if b n then 1 else 0) = p
    by_cases e : p = n + 1
    · have k : ∀ m, m ≤ n → zfn b m = m := by
        intro m
        induction m with
        | zero => intro _; rfl
        | succ m ihm => intro hm; show zfn b m + (if b m then 1 else 0) = m + 1; rw [ihm (by omega), h1 m (by omega)]; rfl
      rw [k n (Nat.le_refl _), h1 n (by omega), e]; rfl
    · rw [ih (by omega) h1 (fun j q1 q2 => h2 j q1 (by omega)), h2 n (by omega) (by omega)]; rfl
/-- before the key, or alike where that counts -/
def zfb (od : Nat) (f : Nat → Int64 × Int32) (a : Int64) (bh : Bool) : Nat → Bool := fun j => decide (zr od (f j).1 < zr od a ∨ (bh = true ∧ zr od (f j).1 = zr od a))
theorem zfb_cd {od : Nat} {f : Nat → Int64 × Int32} {a : Int64} {bh : Bool} {j : Nat} : zfb od f a bh j = true ↔ zcd bh (zr od (f j).1) (zr od a) := by
  unfold zfb
  rw [decide_eq_true_eq]
  cases bh with
  | true => rw [zcd_t]; constructor
            · rintro (h | h)
              · omega
              · omega
            · intro h
              rcases Int.lt_or_eq_of_le h with q | q
              · exact Or.inl q
              · exact Or.inr ⟨rfl, q⟩
  | false => rw [zcd_f]; constructor
             · rintro (h | h)
               · exact h
               · exact absurd h.1 (by decide)
             · exact Or.inl
set_option maxHeartbeats 4000000 in
set_option maxRecDepth 100000 in
theorem ct_M_runs (l : Launch) (g : YG) (S : YS) (k n : Nat) (hk : k < 4) (hn : n ≤ 1024) (hc : gI S 27 k = nI n) (od : Nat) (ho : od < 8) : yC l mn_M_runs mb_M_runs 6 (some .int) 4 g [.ref (g.ad (24)), .int (nI (k)), .int (nI (od))] S (fun v S' => v = some (.int (nI (zrn (fun j => decide (zq od false ((ze4 S k) j) < zq od false ((ze4 S k) (j - 1)))) n (n + 1) 0))) ∧ S' = yx S 0) := by
  refine yC_of (by decide) (Nat.le_of_ble_eq_true rfl) ?_
  intro o hl hg hB0 hE
  subst hl
  subst hg
  have hB : yB o mb_M_runs "OrderBenchModel" := hB0
  have hm := hE.1
  show yW o (S) 0 [(0, .ref (o.G.ad (24))), (1, .int (nI (k))), (2, .int (nI (od)))] []
  obtain ⟨b, hb⟩ : ∃ z : Nat → Bool, z = (fun j => decide (zq od false ((ze4 S k) j) < zq od false ((ze4 S k) (j - 1)))) := ⟨_, rfl⟩
  refine y_aload_n (pc' := 1) hB dc_M_runs_0 rfl rfl 0 rfl ?_
  refine y_iload_n (pc' := 2) hB dc_M_runs_1 rfl rfl 1 rfl ?_
  refine y_callV (c := 24) (ci := 4) (As := [.int (nI (k))]) (rest := []) (pc' := 5) hB hE (ct_M_noRow o.l o.G S (nI k) (zgr_of hk)) mm_M_noRow q_672 q_674 qs_12 (by decide) rfl rfl dc_M_runs_2 rfl (by decide) rfl rfl (Nat.le_of_ble_eq_true rfl) (fun v S' hpost => ?_)
  obtain ⟨rfl, hSS⟩ := hpost
  rw [hSS]
  clear hSS S'
  show yW o (yx S 0) 5 [(0, .ref (o.G.ad (24))), (1, .int (nI (k))), (2, .int (nI (od)))] [.int (0)]
  refine y_if_ne (x := 0) (pc' := 8) (tg := 16) hB dc_M_runs_5 rfl rfl (fun c1 => ?_) (fun c1 => ?_)
  · exact absurd rfl c1
  · refine y_aload_n (pc' := 9) hB dc_M_runs_8 rfl rfl 0 rfl ?_
    refine y_iload_n (pc' := 10) hB dc_M_runs_9 rfl rfl 2 rfl ?_
    refine y_callV (c := 24) (ci := 4) (As := [.int (nI (od))]) (rest := []) (pc' := 13) hB hE (ct_M_noOrder o.l o.G (yx S 0) (nI od) (zgo_of ho)) mm_M_noOrder q_720 q_722 qs_14 (by decide) rfl rfl dc_M_runs_10 rfl (by decide) rfl rfl (Nat.le_of_ble_eq_true rfl) (fun v S' hpost => ?_)
    obtain ⟨rfl, hSS⟩ := hpost
    rw [hSS]
    clear hSS S'
    show yW o (yx (yx S 0) 0) 13 [(0, .ref (o.G.ad (24))), (1, .int (nI (k))), (2, .int (nI (od)))] [.int (0)]
    rw [yx_yx]
    refine y_if_eq (x := 0) (pc' := 16) (tg := 18) hB dc_M_runs_13 rfl rfl (fun c2 => ?_) (fun c2 => ?_)
    · refine y_iconst (v := nI 0) (pc' := 19) hB dc_M_runs_18 rfl rfl ?_
      refine y_istore_n (pc' := 20) (lv' := [(3, .int (nI (0))), (0, .ref (o.G.ad (24))), (1, .int (nI (k))), (2, .int (nI (od)))]) hB hm dc_M_runs_19 rfl rfl (by decide) rfl ?_
      refine y_iconst (v := nI 0) (pc' := 21) hB dc_M_runs_20 rfl rfl ?_
      refine y_istore (pc' := 23) (lv' := [(4, .int (nI (0))), (3, .int (nI (0))), (0, .ref (o.G.ad (24))), (1, .int (nI (k))), (2, .int (nI (od)))]) hB hm dc_M_runs_21 rfl (by decide) rfl ?_
      have outer : ∀ (d : Nat) (i mn fu : Nat), n - i < d → i ≤ n → n - i < fu → mn + zrn b n fu i = zrn b n (n + 1) 0 → yW o (yx S 0) 23 [(4, .int (nI (i))), (3, .int (nI (mn))), (0, .ref (o.G.ad (24))), (1, .int (nI (k))), (2, .int (nI (od)))] [] := by
        intro d
        induction d with
        | zero => intro i mn fu hd; omega
        | succ d ih =>
          intro i mn fu hd h1 h3 h4
          refine y_iload (pc' := 25) hB dc_M_runs_23 rfl 0 rfl ?_
          refine y_aload_n (pc' := 26) hB dc_M_runs_25 rfl rfl 2 rfl ?_
          refine f_M_sizes (pc' := 29) hB dc_M_runs_26 rfl q_642 ?_
          refine y_iload_n (pc' := 30) hB dc_M_runs_29 rfl rfl 3 rfl ?_
          refine y_iald (c := 27) (n := 4) (j := k) (pc' := 31) hB dc_M_runs_30 rfl (by decide) rfl (by omega) (by decide) ?_
          refine y_topi (y := nI (n)) (hc) ?_
          refine n_icmp_ge (pc' := 34) (tg := 106) hB dc_M_runs_31 rfl rfl (by omega) (by omega) (fun b1 => ?_) (fun b1 => ?_)
          · refine y_iload_n (pc' := 107) hB dc_M_runs_106 rfl rfl 1 rfl ?_
            rw [zrn_end (by omega), Nat.add_zero] at h4
            exact y_iret hB hE dc_M_runs_107 ⟨by rw [h4, hb], rfl⟩
          · obtain ⟨fu2, rfl⟩ : ∃ z, fu = z + 1 := ⟨fu - 1, by omega⟩
            obtain ⟨fl, hfl⟩ : ∃ z, z = (decide (i + 1 < n) && b (i + 1)) := ⟨_, rfl⟩
            have inner : ∀ (d2 : Nat) (j : Nat), n - j < d2 → i < j ∧ j ≤ n → (∀ t, i < t → t < j → b t = fl) → yW o (yx S 0) 73 [(5, .int (yb fl)), (4, .int (nI (j))), (3, .int (nI (mn + 1))), (0, .ref (o.G.ad (24))), (1, .int (nI (k))), (2, .int (nI (od)))] [] := by
              intro d2
              induction d2 with
              | zero => intro j hd2; omega
              | succ d2 ih2 =>
                intro j hd2 k1 k2
                have fin : (j < n → b j ≠ fl) → yW o (yx S 0) 103 [(5, .int (yb fl)), (4, .int (nI (j))), (3, .int (nI (mn + 1))), (0, .ref (o.G.ad (24))), (1, .int (nI (k))), (2, .int (nI (od)))] [] := by
                  intro z
                  rw [zrn_on b1 hfl k1.1 k1.2 z k2] at h4
                  refine y_goto (tg := 23) hB dc_M_runs_103 rfl ?_
                  refine y_sub [1, 2, 3, 4, 5] rfl ?_
                  exact ih j (mn + 1) fu2 (by omega) k1.2 (by omega) (by omega)
                refine y_iload (pc' := 75) hB dc_M_runs_73 rfl 1 rfl ?_
                refine y_aload_n (pc' := 76) hB dc_M_runs_75 rfl rfl 3 rfl ?_
                refine f_M_sizes (pc' := 79) hB dc_M_runs_76 rfl q_642 ?_
                refine y_iload_n (pc' := 80) hB dc_M_runs_79 rfl rfl 4 rfl ?_
                refine y_iald (c := 27) (n := 4) (j := k) (pc' := 81) hB dc_M_runs_80 rfl (by decide) rfl (by omega) (by decide) ?_
                refine y_topi (y := nI (n)) (hc) ?_
                refine n_icmp_ge (pc' := 84) (tg := 103) hB dc_M_runs_81 rfl rfl (by omega) (by omega) (fun b2 => ?_) (fun b2 => ?_)
                · exact fin (fun z => by omega)
                · refine y_aload_n (pc' := 85) hB dc_M_runs_84 rfl rfl 3 rfl ?_
                  refine y_iload_n (pc' := 86) hB dc_M_runs_85 rfl rfl 4 rfl ?_
                  refine y_iload_n (pc' := 87) hB dc_M_runs_86 rfl rfl 5 rfl ?_
                  refine y_iload (pc' := 89) hB dc_M_runs_87 rfl 1 rfl ?_
                  refine y_callV (c := 24) (ci := 4) (As := [.int (nI (k)), .int (nI (od)), .int (nI (j))]) (rest := []) (pc' := 92) hB hE (ct_M_falls o.l o.G (yx S 0) k hk od ho j (by omega) (by omega)) mm_M_falls q_777 q_779 qs_21 (by decide) rfl rfl dc_M_runs_89 rfl (by decide) rfl rfl (Nat.le_of_ble_eq_true rfl) (fun v S' hpost => ?_)
                  obtain ⟨rfl, hSS⟩ := hpost
                  rw [hSS]
                  clear hSS S'
                  show yW o (yx S 0) 92 [(5, .int (yb fl)), (4, .int (nI (j))), (3, .int (nI (mn + 1))), (0, .ref (o.G.ad (24))), (1, .int (nI (k))), (2, .int (nI (od)))] [.int (yb (decide (zq od false ((ze4 S k) j) < zq od false ((ze4 S k) (j - 1)))))]
                  have ej : decide (zq od false ((ze4 S k) j) < zq od false ((ze4 S k) (j - 1))) = b j := by rw [hb]
                  rw [ej]
                  refine y_iload (pc' := 94) hB dc_M_runs_92 rfl 0 rfl ?_
                  refine y_icmp_ne (x := yb (b j)) (y := yb fl) (pc' := 97) (tg := 103) hB dc_M_runs_94 rfl rfl (fun b3 => ?_) (fun b3 => ?_)
                  · exact fin (fun _ z => b3 (by rw [z]))
                  · refine n_inc (q := 1) (z := 1) (pc' := 100) (lv' := [(4, .int (nI (j + 1))), (5, .int (yb fl)), (3, .int (nI (mn + 1))), (0, .ref (o.G.ad (24))), (1, .int (nI (k))), (2, .int (nI (od)))]) hB hm dc_M_runs_97 rfl rfl (by decide) rfl ?_
                    refine y_goto (tg := 73) hB dc_M_runs_100 rfl ?_
                    refine y_sub [1, 0, 2, 3, 4, 5] rfl ?_
                    refine ih2 (j + 1) (by omega) (by omega) (fun t e1 e2 => ?_)
                    by_cases e : t = j
                    · rw [e]; exact yb_inj.mp b3
                    · exact k2 t e1 (by omega)
            have go : ∀ d2, d2 = fl → yW o (yx S 0) 68 [(3, .int (nI (mn + 1))), (4, .int (nI (i))), (0, .ref (o.G.ad (24))), (1, .int (nI (k))), (2, .int (nI (od)))] [.int (yb d2)] := by
              intro d2 z
              rw [z]
              refine y_istore (pc' := 70) (lv' := [(5, .int (yb fl)), (3, .int (nI (mn + 1))), (4, .int (nI (i))), (0, .ref (o.G.ad (24))), (1, .int (nI (k))), (2, .int (nI (od)))]) hB hm dc_M_runs_68 rfl (by decide) rfl ?_
              refine n_inc (q := 2) (z := 1) (pc' := 73) (lv' := [(4, .int (nI (i + 1))), (5, .int (yb fl)), (3, .int (nI (mn + 1))), (0, .ref (o.G.ad (24))), (1, .int (nI (k))), (2, .int (nI (od)))]) hB hm dc_M_runs_70 rfl rfl (by decide) rfl ?_
              refine y_sub [1, 0, 2, 3, 4, 5] rfl ?_
              exact inner (n + 1) (i + 1) (by omega) (by omega) (fun t e1 e2 => by omega)
            refine n_inc (q := 1) (z := 1) (pc' := 37) (lv' := [(3, .int (nI (mn + 1))), (4, .int (nI (i))), (0, .ref (o.G.ad (24))), (1, .int (nI (k))), (2, .int (nI (od)))]) hB hm dc_M_runs_34 rfl rfl (by decide) rfl ?_
            refine y_iload (pc' := 39) hB dc_M_runs_37 rfl 1 rfl ?_
            refine y_iconst (v := nI 1) (pc' := 40) hB dc_M_runs_39 rfl rfl ?_
            refine n_iadd (x := i) (y := 1) (pc' := 41) hB dc_M_runs_40 rfl ?_
            refine y_aload_n (pc' := 42) hB dc_M_runs_41 rfl rfl 2 rfl ?_
            refine f_M_sizes (pc' := 45) hB dc_M_runs_42 rfl q_642 ?_
            refine y_iload_n (pc' := 46) hB dc_M_runs_45 rfl rfl 3 rfl ?_
            refine y_iald (c := 27) (n := 4) (j := k) (pc' := 47) hB dc_M_runs_46 rfl (by decide) rfl (by omega) (by decide) ?_
            refine y_topi (y := nI (n)) (hc) ?_
            refine n_icmp_ge (pc' := 50) (tg := 67) hB dc_M_runs_47 rfl rfl (by omega) (by omega) (fun b4 => ?_) (fun b4 => ?_)
            · refine y_iconst (v := nI 0) (pc' := 68) hB dc_M_runs_67 rfl rfl ?_
              refine y_sub [0, 1, 2, 3, 4] rfl ?_
              exact go false (by rw [hfl, decide_eq_false (by omega), Bool.false_and])
            · refine y_aload_n (pc' := 51) hB dc_M_runs_50 rfl rfl 2 rfl ?_
              refine y_iload_n (pc' := 52) hB dc_M_runs_51 rfl rfl 3 rfl ?_
              refine y_iload_n (pc' := 53) hB dc_M_runs_52 rfl rfl 4 rfl ?_
              refine y_iload (pc' := 55) hB dc_M_runs_53 rfl 1 rfl ?_
              refine y_iconst (v := nI 1) (pc' := 56) hB dc_M_runs_55 rfl rfl ?_
              refine n_iadd (x := i) (y := 1) (pc' := 57) hB dc_M_runs_56 rfl ?_
              refine y_callV (c := 24) (ci := 4) (As := [.int (nI (k)), .int (nI (od)), .int (nI (i + 1))]) (rest := []) (pc' := 60) hB hE (ct_M_falls o.l o.G (yx S 0) k hk od ho (i + 1) (by omega) (by omega)) mm_M_falls q_777 q_779 qs_21 (by decide) rfl rfl dc_M_runs_57 rfl (by decide) rfl rfl (Nat.le_of_ble_eq_true rfl) (fun v S' hpost => ?_)
              obtain ⟨rfl, hSS⟩ := hpost
              rw [hSS]
              clear hSS S'
              show yW o (yx S 0) 60 [(3, .int (nI (mn + 1))), (4, .int (nI (i))), (0, .ref (o.G.ad (24))), (1, .int (nI (k))), (2, .int (nI (od)))] [.int (yb (decide (zq od false ((ze4 S k) (i + 1)) < zq od false ((ze4 S k) (i + 1 - 1)))))]
              have ej : decide (zq od false ((ze4 S k) (i + 1)) < zq od false ((ze4 S k) (i + 1 - 1))) = b (i + 1) := by rw [hb]
              rw [ej]
              have ef : b (i + 1) = fl := by rw [hfl, decide_eq_true b4, Bool.true_and]
              refine y_if_eq (x := yb (b (i + 1))) (pc' := 63) (tg := 67) hB dc_M_runs_60 rfl rfl (fun b5 => ?_) (fun b5 => ?_)
              · refine y_iconst (v := nI 0) (pc' := 68) hB dc_M_runs_67 rfl rfl ?_
                refine y_sub [0, 1, 2, 3, 4] rfl ?_
                exact go false ((yb_0.mp b5).symm.trans ef)
              · refine y_iconst (v := nI 1) (pc' := 64) hB dc_M_runs_63 rfl rfl ?_
                refine y_goto (tg := 68) hB dc_M_runs_64 rfl ?_
                refine y_sub [0, 1, 2, 3, 4] rfl ?_
                exact go true ((yb_n.mp b5).symm.trans ef)
      exact outer (n + 1) 0 0 (n + 1) (by omega) (by omega) (by omega) (by omega)
    · exact absurd rfl c2
set_option maxHeartbeats 4000000 in
set_option maxRecDepth 100000 in
theorem ct_M_find (l : Launch) (g : YG) (S : YS) (k n : Nat) (hk : k < 4) (hn : n ≤ 1024) (hc : gI S 27 k = nI n) (od : Nat) (ho : od < 8) (hs : zo (zq od false) (zs (ze4 S k) 0 n)) (a : Int64) (bh : Bool) : yC l mn_M_find mb_M_find 10 (some .int) 4 g [.ref (g.ad (24)), .int (nI (k)), .int (nI (od)), .long (a), .int (yb bh)] S (fun v S' => v = some (.int (nI (zfn (zfb od (ze4 S k) a bh) n))) ∧ S' = yx S 0) := by
  refine yC_of (by decide) (Nat.le_of_ble_eq_true rfl) ?_
  intro o hl hg hB0 hE
  subst hl
  subst hg
  have hB : yB o mb_M_find "OrderBenchModel" := hB0
  have hm := hE.1
  show yW o (S) 0 [(0, .ref (o.G.ad (24))), (1, .int (nI (k))), (2, .int (nI (od))), (3, .long (a)), (5, .int (yb bh))] []
  refine y_aload_n (pc' := 1) hB dc_M_find_0 rfl rfl 0 rfl ?_
  refine y_iload_n (pc' := 2) hB dc_M_find_1 rfl rfl 1 rfl ?_
  refine y_callV (c := 24) (ci := 4) (As := [.int (nI (k))]) (rest := []) (pc' := 5) hB hE (ct_M_noRow o.l o.G S (nI k) (zgr_of hk)) mm_M_noRow q_672 q_674 qs_12 (by decide) rfl rfl dc_M_find_2 rfl (by decide) rfl rfl (Nat.le_of_ble_eq_true rfl) (fun v S' hpost => ?_)
  obtain ⟨rfl, hSS⟩ := hpost
  rw [hSS]
  clear hSS S'
  show yW o (yx S 0) 5 [(0, .ref (o.G.ad (24))), (1, .int (nI (k))), (2, .int (nI (od))), (3, .long (a)), (5, .int (yb bh))] [.int (0)]
  refine y_if_ne (x := 0) (pc' := 8) (tg := 16) hB dc_M_find_5 rfl rfl (fun c1 => ?_) (fun c1 => ?_)
  · exact absurd rfl c1
  · refine y_aload_n (pc' := 9) hB dc_M_find_8 rfl rfl 0 rfl ?_
    refine y_iload_n (pc' := 10) hB dc_M_find_9 rfl rfl 2 rfl ?_
    refine y_callV (c := 24) (ci := 4) (As := [.int (nI (od))]) (rest := []) (pc' := 13) hB hE (ct_M_noOrder o.l o.G (yx S 0) (nI od) (zgo_of ho)) mm_M_noOrder q_720 q_722 qs_14 (by decide) rfl rfl dc_M_find_10 rfl (by decide) rfl rfl (Nat.le_of_ble_eq_true rfl) (fun v S' hpost => ?_)
    obtain ⟨rfl, hSS⟩ := hpost
    rw [hSS]
    clear hSS S'
    show yW o (yx (yx S 0) 0) 13 [(0, .ref (o.G.ad (24))), (1, .int (nI (k))), (2, .int (nI (od))), (3, .long (a)), (5, .int (yb bh))] [.int (0)]
    rw [yx_yx]
    refine y_if_eq (x := 0) (pc' := 16) (tg := 18) hB dc_M_find_13 rfl rfl (fun c2 => ?_) (fun c2 => ?_)
    · refine y_aload_n (pc' := 19) hB dc_M_find_18 rfl rfl 0 rfl ?_
      refine y_aload_n (pc' := 20) hB dc_M_find_19 rfl rfl 0 rfl ?_
      refine y_iload_n (pc' := 21) hB dc_M_find_20 rfl rfl 1 rfl ?_
      refine y_iload_n (pc' := 22) hB dc_M_find_21 rfl rfl 2 rfl ?_
      refine y_callV (c := 24) (ci := 4) (As := [.int (nI (k)), .int (nI (od))]) (rest := [.ref (o.G.ad (24))]) (pc' := 25) hB hE (ct_M_inOrder o.l o.G (yx S 0) k n hk hn hc od ho) mm_M_inOrder q_769 q_771 qs_20 (by decide) rfl rfl dc_M_find_22 rfl (by decide) rfl rfl (Nat.le_of_ble_eq_true rfl) (fun v S' hpost => ?_)
      obtain ⟨bo, rfl, rfl, m1⟩ := hpost
      rw [m1.mpr hs]
      show yW o (yx S 0) 25 [(0, .ref (o.G.ad (24))), (1, .int (nI (k))), (2, .int (nI (od))), (3, .long (a)), (5, .int (yb bh))] [.int (yb true), .ref (o.G.ad (24))]
      refine y_if_eq (x := yb true) (pc' := 28) (tg := 32) hB dc_M_find_25 rfl rfl (fun c3 => ?_) (fun c3 => ?_)
      · exact absurd c3 (by decide)
      · refine y_iconst (v := nI 0) (pc' := 29) hB dc_M_find_28 rfl rfl ?_
        refine y_goto (tg := 33) hB dc_M_find_29 rfl ?_
        refine p_M_code (pc' := 36) hB dc_M_find_33 rfl q_639 ?_
        show yW o (yx (yx S 0) 0) 36 [(0, .ref (o.G.ad (24))), (1, .int (nI (k))), (2, .int (nI (od))), (3, .long (a)), (5, .int (yb bh))] []
        rw [yx_yx]
        refine y_iconst (v := nI 0) (pc' := 37) hB dc_M_find_36 rfl rfl ?_
        refine y_istore (pc' := 39) (lv' := [(6, .int (nI (0))), (0, .ref (o.G.ad (24))), (1, .int (nI (k))), (2, .int (nI (od))), (3, .long (a)), (5, .int (yb bh))]) hB hm dc_M_find_37 rfl (by decide) rfl ?_
        refine y_iconst (v := nI 0) (pc' := 40) hB dc_M_find_39 rfl rfl ?_
        refine y_istore (pc' := 42) (lv' := [(7, .int (nI (0))), (6, .int (nI (0))), (0, .ref (o.G.ad (24))), (1, .int (nI (k))), (2, .int (nI (od))), (3, .long (a)), (5, .int (yb bh))]) hB hm dc_M_find_40 rfl (by decide) rfl ?_
        have loop : ∀ (d : Nat) (i : Nat), n - i < d → i ≤ n → yW o (yx S 0) 42 [(7, .int (nI (i))), (6, .int (nI (zfn (zfb od (ze4 S k) a bh) i))), (0, .ref (o.G.ad (24))), (1, .int (nI (k))), (2, .int (nI (od))), (3, .long (a)), (5, .int (yb bh))] [] := by
          intro d
          induction d with
          | zero => intro i hd; omega
          | succ d ih =>
            intro i hd h1
            refine y_iload (pc' := 44) hB dc_M_find_42 rfl 0 rfl ?_
            refine y_aload_n (pc' := 45) hB dc_M_find_44 rfl rfl 2 rfl ?_
            refine f_M_sizes (pc' := 48) hB dc_M_find_45 rfl q_642 ?_
            refine y_iload_n (pc' := 49) hB dc_M_find_48 rfl rfl 3 rfl ?_
            refine y_iald (c := 27) (n := 4) (j := k) (pc' := 50) hB dc_M_find_49 rfl (by decide) rfl (by omega) (by decide) ?_
            refine y_topi (y := nI (n)) (hc) ?_
            refine n_icmp_ge (pc' := 53) (tg := 117) hB dc_M_find_50 rfl rfl (by omega) (by omega) (fun b1 => ?_) (fun b1 => ?_)
            · have e : i = n := by omega
              subst e
              refine y_iload (pc' := 119) hB dc_M_find_117 rfl 1 rfl ?_
              exact y_iret hB hE dc_M_find_119 ⟨rfl, rfl⟩
            · refine y_aload_n (pc' := 54) hB dc_M_find_53 rfl rfl 2 rfl ?_
              refine f_M_code (pc' := 57) hB dc_M_find_54 rfl q_639 ?_
              refine y_topi (y := nI (0)) (yx_c S 0) ?_
              refine n_if_ne (pc' := 60) (tg := 117) hB dc_M_find_57 rfl rfl (by omega) (fun b2 => ?_) (fun b2 => ?_)
              · omega
              · have yes : zfb od (ze4 S k) a bh i = true → yW o (yx S 0) 100 [(8, .long (((ze4 S k) i).1)), (7, .int (nI (i))), (6, .int (nI (zfn (zfb od (ze4 S k) a bh) i))), (0, .ref (o.G.ad (24))), (1, .int (nI (k))), (2, .int (nI (od))), (3, .long (a)), (5, .int (yb bh))] [] := by
                  intro z
                  refine y_iload (pc' := 102) hB dc_M_find_100 rfl 2 rfl ?_
                  refine y_iconst (v := nI 1) (pc' := 103) hB dc_M_find_102 rfl rfl ?_
                  refine n_iadd (x := zfn (zfb od (ze4 S k) a bh) i) (y := 1) (pc' := 104) hB dc_M_find_103 rfl ?_
                  refine y_goto (tg := 109) hB dc_M_find_104 rfl ?_
                  refine y_istore (pc' := 111) (lv' := [(6, .int (nI ((zfn (zfb od (ze4 S k) a bh) i) + 1))), (8, .long (((ze4 S k) i).1)), (7, .int (nI (i))), (0, .ref (o.G.ad (24))), (1, .int (nI (k))), (2, .int (nI (od))), (3, .long (a)), (5, .int (yb bh))]) hB hm dc_M_find_109 rfl (by decide) rfl ?_
                  refine n_inc (q := 2) (z := 1) (pc' := 114) (lv' := [(7, .int (nI (i + 1))), (6, .int (nI ((zfn (zfb od (ze4 S k) a bh) i) + 1))), (8, .long (((ze4 S k) i).1)), (0, .ref (o.G.ad (24))), (1, .int (nI (k))), (2, .int (nI (od))), (3, .long (a)), (5, .int (yb bh))]) hB hm dc_M_find_111 rfl rfl (by decide) rfl ?_
                  refine y_goto (tg := 42) hB dc_M_find_114 rfl ?_
                  refine y_sub [0, 1, 3, 4, 5, 6, 7] rfl ?_
                  have e : zfn (zfb od (ze4 S k) a bh) (i + 1) = zfn (zfb od (ze4 S k) a bh) i + (if zfb od (ze4 S k) a bh i then 1 else 0) := rfl
                  rw [z] at e
                  have hz := ih (i + 1) (by omega) b1
                  rw [e] at hz
                  exact hz
                have no : zfb od (ze4 S k) a bh i = false → yW o (yx S 0) 107 [(8, .long (((ze4 S k) i).1)), (7, .int (nI (i))), (6, .int (nI (zfn (zfb od (ze4 S k) a bh) i))), (0, .ref (o.G.ad (24))), (1, .int (nI (k))), (2, .int (nI (od))), (3, .long (a)), (5, .int (yb bh))] [] := by
                  intro z
                  refine y_iload (pc' := 109) hB dc_M_find_107 rfl 2 rfl ?_
                  refine y_istore (pc' := 111) (lv' := [(6, .int (nI (zfn (zfb od (ze4 S k) a bh) i))), (8, .long (((ze4 S k) i).1)), (7, .int (nI (i))), (0, .ref (o.G.ad (24))), (1, .int (nI (k))), (2, .int (nI (od))), (3, .long (a)), (5, .int (yb bh))]) hB hm dc_M_find_109 rfl (by decide) rfl ?_
                  refine n_inc (q := 2) (z := 1) (pc' := 114) (lv' := [(7, .int (nI (i + 1))), (6, .int (nI (zfn (zfb od (ze4 S k) a bh) i))), (8, .long (((ze4 S k) i).1)), (0, .ref (o.G.ad (24))), (1, .int (nI (k))), (2, .int (nI (od))), (3, .long (a)), (5, .int (yb bh))]) hB hm dc_M_find_111 rfl rfl (by decide) rfl ?_
                  refine y_goto (tg := 42) hB dc_M_find_114 rfl ?_
                  refine y_sub [0, 1, 3, 4, 5, 6, 7] rfl ?_
                  have e : zfn (zfb od (ze4 S k) a bh) (i + 1) = zfn (zfb od (ze4 S k) a bh) i + (if zfb od (ze4 S k) a bh i then 1 else 0) := rfl
                  rw [z] at e
                  have hz := ih (i + 1) (by omega) b1
                  rw [e] at hz
                  exact hz
                refine y_aload_n (pc' := 61) hB dc_M_find_60 rfl rfl 2 rfl ?_
                refine f_M_keys (pc' := 64) hB dc_M_find_61 rfl q_640 ?_
                refine y_sipush (v := nI 1024) (pc' := 67) hB dc_M_find_64 rfl (by decide) ?_
                refine y_iload_n (pc' := 68) hB dc_M_find_67 rfl rfl 3 rfl ?_
                refine n_imul (x := 1024) (y := k) (pc' := 69) hB dc_M_find_68 rfl ?_
                refine y_iload (pc' := 71) hB dc_M_find_69 rfl 0 rfl ?_
                refine n_iadd (x := 1024 * k) (y := i) (pc' := 72) hB dc_M_find_71 rfl ?_
                refine y_lald (c := 25) (n := 4096) (j := (1024 * k) + i) (pc' := 73) hB dc_M_find_72 rfl (by decide) rfl (by omega) (by decide) ?_
                refine y_lstore (pc' := 75) (lv' := [(8, .long (gL (yx S 0) (25) ((1024 * k) + i))), (7, .int (nI (i))), (6, .int (nI (zfn (zfb od (ze4 S k) a bh) i))), (0, .ref (o.G.ad (24))), (1, .int (nI (k))), (2, .int (nI (od))), (3, .long (a)), (5, .int (yb bh))]) hB hm dc_M_find_73 rfl (by decide) rfl ?_
                refine y_iload_n (pc' := 76) hB dc_M_find_75 rfl rfl 5 rfl ?_
                refine y_lload (pc' := 78) hB dc_M_find_76 rfl 0 rfl ?_
                refine y_lload_n (pc' := 79) hB dc_M_find_78 rfl rfl 6 rfl ?_
                refine y_callS (As := [.int (nI (od)), .long (gL (yx S 0) (25) ((1024 * k) + i)), .long (a)]) (rest := []) (pc' := 82) hB hE (ct_M_isBefore o.l o.G (yx S 0) od ho ((ze4 S k) i).1 a) mm_M_isBefore q_740 q_741 dc_M_find_79 rfl (by decide) rfl rfl (Nat.le_of_ble_eq_true rfl) (fun v S' hpost => ?_)
                obtain ⟨rfl, hSS⟩ := hpost
                rw [hSS]
                clear hSS S'
                show yW o (yx S 0) 82 [(8, .long (gL (yx S 0) (25) ((1024 * k) + i))), (7, .int (nI (i))), (6, .int (nI (zfn (zfb od (ze4 S k) a bh) i))), (0, .ref (o.G.ad (24))), (1, .int (nI (k))), (2, .int (nI (od))), (3, .long (a)), (5, .int (yb bh))] [.int (yb (decide (zr od ((ze4 S k) i).1 < zr od a)))]
                refine y_if_ne (x := yb (decide (zr od ((ze4 S k) i).1 < zr od a))) (pc' := 85) (tg := 100) hB dc_M_find_82 rfl rfl (fun b3 => ?_) (fun b3 => ?_)
                · rw [yb_n, decide_eq_true_eq] at b3
                  refine y_sub [0, 1, 2, 3, 4, 5, 6, 7] rfl ?_
                  exact yes (decide_eq_true (Or.inl b3))
                · rw [yb_0, decide_eq_false_iff_not] at b3
                  refine y_iload (pc' := 87) hB dc_M_find_85 rfl 7 rfl ?_
                  refine y_if_eq (x := yb bh) (pc' := 90) (tg := 107) hB dc_M_find_87 rfl rfl (fun b4 => ?_) (fun b4 => ?_)
                  · refine y_sub [0, 1, 2, 3, 4, 5, 6, 7] rfl ?_
                    exact no (decide_eq_false (fun z => by rcases z with z | z; exact b3 z; rw [yb_0.mp b4] at z; exact absurd z.1 (by decide)))
                  · refine y_iload_n (pc' := 91) hB dc_M_find_90 rfl rfl 5 rfl ?_
                    refine y_lload (pc' := 93) hB dc_M_find_91 rfl 0 rfl ?_
                    refine y_lload_n (pc' := 94) hB dc_M_find_93 rfl rfl 6 rfl ?_
                    refine y_callS (As := [.int (nI (od)), .long (gL (yx S 0) (25) ((1024 * k) + i)), .long (a)]) (rest := []) (pc' := 97) hB hE (ct_M_areAlike o.l o.G (yx S 0) od ho ((ze4 S k) i).1 a) mm_M_areAlike q_797 q_798 dc_M_find_94 rfl (by decide) rfl rfl (Nat.le_of_ble_eq_true rfl) (fun v S' hpost => ?_)
                    obtain ⟨rfl, hSS⟩ := hpost
                    rw [hSS]
                    clear hSS S'
                    show yW o (yx S 0) 97 [(8, .long (gL (yx S 0) (25) ((1024 * k) + i))), (7, .int (nI (i))), (6, .int (nI (zfn (zfb od (ze4 S k) a bh) i))), (0, .ref (o.G.ad (24))), (1, .int (nI (k))), (2, .int (nI (od))), (3, .long (a)), (5, .int (yb bh))] [.int (yb (decide (zr od ((ze4 S k) i).1 = zr od a)))]
                    refine y_if_eq (x := yb (decide (zr od ((ze4 S k) i).1 = zr od a))) (pc' := 100) (tg := 107) hB dc_M_find_97 rfl rfl (fun b5 => ?_) (fun b5 => ?_)
                    · rw [yb_0, decide_eq_false_iff_not] at b5
                      refine y_sub [0, 1, 2, 3, 4, 5, 6, 7] rfl ?_
                      exact no (decide_eq_false (fun z => by rcases z with z | z; exact b3 z; exact b5 z.2))
                    · rw [yb_n, decide_eq_true_eq] at b5
                      refine y_sub [0, 1, 2, 3, 4, 5, 6, 7] rfl ?_
                      exact yes (decide_eq_true (Or.inr ⟨yb_n.mp b4, b5⟩))
        exact loop (n + 1) 0 (by omega) (by omega)
    · exact absurd rfl c2
