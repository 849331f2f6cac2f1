/-! JUDGE: placeByLeaps -/
theorem dc_J_placeByLeaps_0 : decode mb_J_placeByLeaps 0 = .ok (.iload 7, 2) := by decide +kernel
theorem dc_J_placeByLeaps_2 : decode mb_J_placeByLeaps 2 = .ok (.ifCond .eq 7, 3) := by decide +kernel
theorem dc_J_placeByLeaps_5 : decode mb_J_placeByLeaps 5 = .ok (.iconst 1, 1) := by decide +kernel
theorem dc_J_placeByLeaps_6 : decode mb_J_placeByLeaps 6 = .ok (.goto 4, 3) := by decide +kernel
theorem dc_J_placeByLeaps_9 : decode mb_J_placeByLeaps 9 = .ok (.iconst 0, 1) := by decide +kernel
theorem dc_J_placeByLeaps_10 : decode mb_J_placeByLeaps 10 = .ok (.istore 8, 2) := by decide +kernel
theorem dc_J_placeByLeaps_12 : decode mb_J_placeByLeaps 12 = .ok (.iload_n 2, 1) := by decide +kernel
theorem dc_J_placeByLeaps_13 : decode mb_J_placeByLeaps 13 = .ok (.istore 9, 2) := by decide +kernel
theorem dc_J_placeByLeaps_15 : decode mb_J_placeByLeaps 15 = .ok (.iconst 1, 1) := by decide +kernel
theorem dc_J_placeByLeaps_16 : decode mb_J_placeByLeaps 16 = .ok (.istore 10, 2) := by decide +kernel
theorem dc_J_placeByLeaps_18 : decode mb_J_placeByLeaps 18 = .ok (.iload 9, 2) := by decide +kernel
theorem dc_J_placeByLeaps_20 : decode mb_J_placeByLeaps 20 = .ok (.iload 10, 2) := by decide +kernel
theorem dc_J_placeByLeaps_22 : decode mb_J_placeByLeaps 22 = .ok (.iadd, 1) := by decide +kernel
theorem dc_J_placeByLeaps_23 : decode mb_J_placeByLeaps 23 = .ok (.iload_n 3, 1) := by decide +kernel
theorem dc_J_placeByLeaps_24 : decode mb_J_placeByLeaps 24 = .ok (.if_icmp .gt 56, 3) := by decide +kernel
theorem dc_J_placeByLeaps_27 : decode mb_J_placeByLeaps 27 = .ok (.aload_n 0, 1) := by decide +kernel
theorem dc_J_placeByLeaps_28 : decode mb_J_placeByLeaps 28 = .ok (.aload_n 1, 1) := by decide +kernel
theorem dc_J_placeByLeaps_29 : decode mb_J_placeByLeaps 29 = .ok (.getfield 37, 3) := by decide +kernel
theorem dc_J_placeByLeaps_32 : decode mb_J_placeByLeaps 32 = .ok (.iload 9, 2) := by decide +kernel
theorem dc_J_placeByLeaps_34 : decode mb_J_placeByLeaps 34 = .ok (.iload 10, 2) := by decide +kernel
theorem dc_J_placeByLeaps_36 : decode mb_J_placeByLeaps 36 = .ok (.iadd, 1) := by decide +kernel
theorem dc_J_placeByLeaps_37 : decode mb_J_placeByLeaps 37 = .ok (.iconst 1, 1) := by decide +kernel
theorem dc_J_placeByLeaps_38 : decode mb_J_placeByLeaps 38 = .ok (.isub, 1) := by decide +kernel
theorem dc_J_placeByLeaps_39 : decode mb_J_placeByLeaps 39 = .ok (.laload, 1) := by decide +kernel
theorem dc_J_placeByLeaps_40 : decode mb_J_placeByLeaps 40 = .ok (.aload_n 1, 1) := by decide +kernel
theorem dc_J_placeByLeaps_41 : decode mb_J_placeByLeaps 41 = .ok (.getfield 43, 3) := by decide +kernel
theorem dc_J_placeByLeaps_44 : decode mb_J_placeByLeaps 44 = .ok (.iload 9, 2) := by decide +kernel
theorem dc_J_placeByLeaps_46 : decode mb_J_placeByLeaps 46 = .ok (.iload 10, 2) := by decide +kernel
theorem dc_J_placeByLeaps_48 : decode mb_J_placeByLeaps 48 = .ok (.iadd, 1) := by decide +kernel
theorem dc_J_placeByLeaps_49 : decode mb_J_placeByLeaps 49 = .ok (.iconst 1, 1) := by decide +kernel
theorem dc_J_placeByLeaps_50 : decode mb_J_placeByLeaps 50 = .ok (.isub, 1) := by decide +kernel
theorem dc_J_placeByLeaps_51 : decode mb_J_placeByLeaps 51 = .ok (.iaload, 1) := by decide +kernel
theorem dc_J_placeByLeaps_52 : decode mb_J_placeByLeaps 52 = .ok (.lload 4, 2) := by decide +kernel
theorem dc_J_placeByLeaps_54 : decode mb_J_placeByLeaps 54 = .ok (.iload 6, 2) := by decide +kernel
theorem dc_J_placeByLeaps_56 : decode mb_J_placeByLeaps 56 = .ok (.invokevirtual 47, 3) := by decide +kernel
theorem dc_J_placeByLeaps_59 : decode mb_J_placeByLeaps 59 = .ok (.iload 8, 2) := by decide +kernel
theorem dc_J_placeByLeaps_61 : decode mb_J_placeByLeaps 61 = .ok (.if_icmp .ge 19, 3) := by decide +kernel
theorem dc_J_placeByLeaps_64 : decode mb_J_placeByLeaps 64 = .ok (.iload 9, 2) := by decide +kernel
theorem dc_J_placeByLeaps_66 : decode mb_J_placeByLeaps 66 = .ok (.iload 10, 2) := by decide +kernel
theorem dc_J_placeByLeaps_68 : decode mb_J_placeByLeaps 68 = .ok (.iadd, 1) := by decide +kernel
theorem dc_J_placeByLeaps_69 : decode mb_J_placeByLeaps 69 = .ok (.istore 9, 2) := by decide +kernel
theorem dc_J_placeByLeaps_71 : decode mb_J_placeByLeaps 71 = .ok (.iload 10, 2) := by decide +kernel
theorem dc_J_placeByLeaps_73 : decode mb_J_placeByLeaps 73 = .ok (.iconst 2, 1) := by decide +kernel
theorem dc_J_placeByLeaps_74 : decode mb_J_placeByLeaps 74 = .ok (.imul, 1) := by decide +kernel
theorem dc_J_placeByLeaps_75 : decode mb_J_placeByLeaps 75 = .ok (.istore 10, 2) := by decide +kernel
theorem dc_J_placeByLeaps_77 : decode mb_J_placeByLeaps 77 = .ok (.goto (-59), 3) := by decide +kernel
theorem dc_J_placeByLeaps_80 : decode mb_J_placeByLeaps 80 = .ok (.iload 10, 2) := by decide +kernel
theorem dc_J_placeByLeaps_82 : decode mb_J_placeByLeaps 82 = .ok (.iconst 2, 1) := by decide +kernel
theorem dc_J_placeByLeaps_83 : decode mb_J_placeByLeaps 83 = .ok (.idiv, 1) := by decide +kernel
theorem dc_J_placeByLeaps_84 : decode mb_J_placeByLeaps 84 = .ok (.istore 10, 2) := by decide +kernel
theorem dc_J_placeByLeaps_86 : decode mb_J_placeByLeaps 86 = .ok (.iload 10, 2) := by decide +kernel
theorem dc_J_placeByLeaps_88 : decode mb_J_placeByLeaps 88 = .ok (.ifCond .le 61, 3) := by decide +kernel
theorem dc_J_placeByLeaps_91 : decode mb_J_placeByLeaps 91 = .ok (.iload 9, 2) := by decide +kernel
theorem dc_J_placeByLeaps_93 : decode mb_J_placeByLeaps 93 = .ok (.iload 10, 2) := by decide +kernel
theorem dc_J_placeByLeaps_95 : decode mb_J_placeByLeaps 95 = .ok (.iadd, 1) := by decide +kernel
theorem dc_J_placeByLeaps_96 : decode mb_J_placeByLeaps 96 = .ok (.iconst 1, 1) := by decide +kernel
theorem dc_J_placeByLeaps_97 : decode mb_J_placeByLeaps 97 = .ok (.isub, 1) := by decide +kernel
theorem dc_J_placeByLeaps_98 : decode mb_J_placeByLeaps 98 = .ok (.istore 11, 2) := by decide +kernel
theorem dc_J_placeByLeaps_100 : decode mb_J_placeByLeaps 100 = .ok (.iload 11, 2) := by decide +kernel
theorem dc_J_placeByLeaps_102 : decode mb_J_placeByLeaps 102 = .ok (.iload_n 3, 1) := by decide +kernel
theorem dc_J_placeByLeaps_103 : decode mb_J_placeByLeaps 103 = .ok (.if_icmp .ge 37, 3) := by decide +kernel
theorem dc_J_placeByLeaps_106 : decode mb_J_placeByLeaps 106 = .ok (.aload_n 0, 1) := by decide +kernel
theorem dc_J_placeByLeaps_107 : decode mb_J_placeByLeaps 107 = .ok (.aload_n 1, 1) := by decide +kernel
theorem dc_J_placeByLeaps_108 : decode mb_J_placeByLeaps 108 = .ok (.getfield 37, 3) := by decide +kernel
theorem dc_J_placeByLeaps_111 : decode mb_J_placeByLeaps 111 = .ok (.iload 11, 2) := by decide +kernel
theorem dc_J_placeByLeaps_113 : decode mb_J_placeByLeaps 113 = .ok (.laload, 1) := by decide +kernel
theorem dc_J_placeByLeaps_114 : decode mb_J_placeByLeaps 114 = .ok (.aload_n 1, 1) := by decide +kernel
theorem dc_J_placeByLeaps_115 : decode mb_J_placeByLeaps 115 = .ok (.getfield 43, 3) := by decide +kernel
theorem dc_J_placeByLeaps_118 : decode mb_J_placeByLeaps 118 = .ok (.iload 11, 2) := by decide +kernel
theorem dc_J_placeByLeaps_120 : decode mb_J_placeByLeaps 120 = .ok (.iaload, 1) := by decide +kernel
theorem dc_J_placeByLeaps_121 : decode mb_J_placeByLeaps 121 = .ok (.lload 4, 2) := by decide +kernel
theorem dc_J_placeByLeaps_123 : decode mb_J_placeByLeaps 123 = .ok (.iload 6, 2) := by decide +kernel
theorem dc_J_placeByLeaps_125 : decode mb_J_placeByLeaps 125 = .ok (.invokevirtual 47, 3) := by decide +kernel
theorem dc_J_placeByLeaps_128 : decode mb_J_placeByLeaps 128 = .ok (.iload 8, 2) := by decide +kernel
theorem dc_J_placeByLeaps_130 : decode mb_J_placeByLeaps 130 = .ok (.if_icmp .ge 10, 3) := by decide +kernel
theorem dc_J_placeByLeaps_133 : decode mb_J_placeByLeaps 133 = .ok (.iload 9, 2) := by decide +kernel
theorem dc_J_placeByLeaps_135 : decode mb_J_placeByLeaps 135 = .ok (.iload 10, 2) := by decide +kernel
theorem dc_J_placeByLeaps_137 : decode mb_J_placeByLeaps 137 = .ok (.iadd, 1) := by decide +kernel
theorem dc_J_placeByLeaps_138 : decode mb_J_placeByLeaps 138 = .ok (.istore 9, 2) := by decide +kernel
theorem dc_J_placeByLeaps_140 : decode mb_J_placeByLeaps 140 = .ok (.iload 10, 2) := by decide +kernel
theorem dc_J_placeByLeaps_142 : decode mb_J_placeByLeaps 142 = .ok (.iconst 2, 1) := by decide +kernel
theorem dc_J_placeByLeaps_143 : decode mb_J_placeByLeaps 143 = .ok (.idiv, 1) := by decide +kernel
theorem dc_J_placeByLeaps_144 : decode mb_J_placeByLeaps 144 = .ok (.istore 10, 2) := by decide +kernel
theorem dc_J_placeByLeaps_146 : decode mb_J_placeByLeaps 146 = .ok (.goto (-60), 3) := by decide +kernel
theorem dc_J_placeByLeaps_149 : decode mb_J_placeByLeaps 149 = .ok (.iload 9, 2) := by decide +kernel
theorem dc_J_placeByLeaps_151 : decode mb_J_placeByLeaps 151 = .ok (.ireturn, 1) := by decide +kernel
theorem zp2 (t : Nat) : t + 1 ≤ 2 ^ t := by
  induction t with
  | zero => exact Nat.le_refl _
  | succ t ih => rw [Nat.pow_succ]; omega
theorem zp2_half {s : Nat} (h : ∃ u, s = 2 ^ u) : (s = 1 ∧ s / 2 = 0) ∨ ((∃ u, s / 2 = 2 ^ u) ∧ s = 2 * (s / 2)) := by
  obtain ⟨u, rfl⟩ := h
  cases u with
  | zero => exact Or.inl ⟨rfl, by decide⟩
  | succ u =>
    rw [Nat.pow_succ]
    exact Or.inr ⟨⟨u, by omega⟩, by omega⟩
set_option maxHeartbeats 4000000 in
set_option maxRecDepth 100000 in
theorem ct_J_placeByLeaps (l : Launch) (g : YG) (S : YS) (od : Nat) (tg : Bool) (c : Nat) (hJ : yJ S od tg c) (r : Nat) (hr : r < 6) (a b : Nat) (hab : a ≤ b) (hb : b ≤ 1024) (hs : ∀ i j, a ≤ i → i < j → j < b → zq od tg (ye S r i) ≤ zq od tg (ye S r j)) (k : Int64) (t : Int32) (bh : Bool) : yC l mn_J_placeByLeaps mb_J_placeByLeaps 12 (some .int) 3 g [.ref (g.ad (20)), .ref (g.ad (2 + r)), .int (nI (a)), .int (nI (b)), .long (k), .int (t), .int (yb bh)] S (fun v S' => ∃ p c', v = some (.int (nI p)) ∧ S' = yq S c' ∧ a ≤ p ∧ p ≤ b ∧ (∀ j, a ≤ j → j < p → zcd bh (zq od tg (ye S r j)) (zq od tg (k, t))) ∧ (∀ j, p ≤ j → j < b → ¬ zcd bh (zq od tg (ye S r j)) (zq od tg (k, t))) ∧ c' ≤ c + 2 * (p - a) + 1) := by
  refine yC_of (by decide) (Nat.le_of_ble_eq_true rfl) ?_
  intro o hl hg hB0 hE
  subst hl
  subst hg
  have hB : yB o mb_J_placeByLeaps "OrderBench$Judge" := hB0
  have hm := hE.1
  show yW o (S) 0 [(0, .ref (o.G.ad (20))), (1, .ref (o.G.ad (2 + r))), (2, .int (nI (a))), (3, .int (nI (b))), (4, .long (k)), (6, .int (t)), (7, .int (yb bh))] []
  have mono : ∀ i j, a ≤ i → i ≤ j → j < b → zcd bh (zq od tg (ye S r j)) (zq od tg (k, t)) → zcd bh (zq od tg (ye S r i)) (zq od tg (k, t)) := by
    intro i j h1 h2 h3 h4
    refine zcd_mono ?_ h4
    by_cases hij : i = j
    · rw [hij]; exact Int.le_refl _
    · exact hs i j h1 (by omega) h3
  have two : ∀ (d : Nat) (st lo c1 m X : Nat), st < d → (st = 0 ∨ ∃ u, st = 2 ^ u) → a ≤ lo → lo ≤ b → (∀ j, a ≤ j → j < lo → zcd bh (zq od tg (ye S r j)) (zq od tg (k, t))) → (∀ j, X ≤ j → j < b → ¬ zcd bh (zq od tg (ye S r j)) (zq od tg (k, t))) → ((st = 0 → X ≤ lo) ∧ (1 ≤ st → X + 1 ≤ lo + 2 * st)) → st < 2 ^ m → c1 + m ≤ c + 2 * (lo - a) + 1 → st ≤ 2048 → yW o (yq S c1) 86 [(10, .int (nI (st))), (9, .int (nI (lo))), (8, .int (yb bh)), (0, .ref (o.G.ad (20))), (1, .ref (o.G.ad (2 + r))), (2, .int (nI (a))), (3, .int (nI (b))), (4, .long (k)), (6, .int (t)), (7, .int (yb bh))] [] := by
    intro d
    induction d with
    | zero => intro st lo c1 m X hd; omega
    | succ d ih =>
      intro st lo c1 m X hd h1 h2 h3 h4 h5 h6 h7 h8 h9
      refine y_iload (pc' := 88) hB dc_J_placeByLeaps_86 rfl 0 rfl ?_
      refine n_if_le (pc' := 91) (tg := 149) hB dc_J_placeByLeaps_88 rfl rfl (by omega) (fun h => ?_) (fun h => ?_)
      · refine y_iload (pc' := 151) hB dc_J_placeByLeaps_149 rfl 1 rfl ?_
        exact y_iret hB hE dc_J_placeByLeaps_151 ⟨lo, c1, rfl, rfl, h2, h3, h4, fun j q1 q2 => h5 j (by have := h6.1 h; omega) q2, by omega⟩
      · have h10 : ∃ u, st = 2 ^ u := by
          rcases h1 with q | q
          · omega
          · exact q
        obtain ⟨m2, hm3⟩ : ∃ m2, m = m2 + 1 := ⟨m - 1, by cases m with | zero => simp at h7; omega | succ n => simp⟩
        subst hm3
        rw [Nat.pow_succ] at h7
        have back : ∀ (lo2 c2 X2 : Nat), lo ≤ lo2 → lo2 ≤ b → (∀ j, a ≤ j → j < lo2 → zcd bh (zq od tg (ye S r j)) (zq od tg (k, t))) → (∀ j, X2 ≤ j → j < b → ¬ zcd bh (zq od tg (ye S r j)) (zq od tg (k, t))) → X2 + 1 ≤ lo2 + st → c2 ≤ c1 + 1 → yW o (yq S c2) 140 [(10, .int (nI (st))), (9, .int (nI (lo2))), (8, .int (yb bh)), (0, .ref (o.G.ad (20))), (1, .ref (o.G.ad (2 + r))), (2, .int (nI (a))), (3, .int (nI (b))), (4, .long (k)), (6, .int (t)), (7, .int (yb bh))] [] := by
          intro lo2 c2 X2 q1 q2 q3 q4 q5 q6
          refine y_iload (pc' := 142) hB dc_J_placeByLeaps_140 rfl 0 rfl ?_
          refine y_iconst (v := nI 2) (pc' := 143) hB dc_J_placeByLeaps_142 rfl rfl ?_
          refine n_idiv (x := st) (y := 2) (pc' := 144) hB dc_J_placeByLeaps_143 rfl (by omega) (by omega) (by omega) ?_
          refine y_istore (pc' := 146) (lv' := [(10, .int (nI (st / 2))), (9, .int (nI (lo2))), (8, .int (yb bh)), (0, .ref (o.G.ad (20))), (1, .ref (o.G.ad (2 + r))), (2, .int (nI (a))), (3, .int (nI (b))), (4, .long (k)), (6, .int (t)), (7, .int (yb bh))]) hB hm dc_J_placeByLeaps_144 rfl (by decide) rfl ?_
          refine y_goto (tg := 86) hB dc_J_placeByLeaps_146 rfl ?_
          refine ih (st / 2) lo2 c2 m2 X2 (by omega) ?_ (by omega) q2 q3 q4 ?_ (by omega) (by omega) (by omega)
          · rcases zp2_half h10 with ⟨-, e⟩ | ⟨e, -⟩
            · exact Or.inl e
            · exact Or.inr e
          · rcases zp2_half h10 with ⟨e1, e2⟩ | ⟨-, e⟩
            · exact ⟨fun _ => by omega, fun q => by omega⟩
            · exact ⟨fun q => by omega, fun _ => by omega⟩
        refine y_iload (pc' := 93) hB dc_J_placeByLeaps_91 rfl 1 rfl ?_
        refine y_iload (pc' := 95) hB dc_J_placeByLeaps_93 rfl 0 rfl ?_
        refine n_iadd (x := lo) (y := st) (pc' := 96) hB dc_J_placeByLeaps_95 rfl ?_
        refine y_iconst (v := nI 1) (pc' := 97) hB dc_J_placeByLeaps_96 rfl rfl ?_
        refine n_isub (x := lo + st) (y := 1) (pc' := 98) hB dc_J_placeByLeaps_97 rfl (by omega) ?_
        refine y_istore (pc' := 100) (lv' := [(11, .int (nI ((lo + st) - 1))), (10, .int (nI (st))), (9, .int (nI (lo))), (8, .int (yb bh)), (0, .ref (o.G.ad (20))), (1, .ref (o.G.ad (2 + r))), (2, .int (nI (a))), (3, .int (nI (b))), (4, .long (k)), (6, .int (t)), (7, .int (yb bh))]) hB hm dc_J_placeByLeaps_98 rfl (by decide) rfl ?_
        refine y_iload (pc' := 102) hB dc_J_placeByLeaps_100 rfl 0 rfl ?_
        refine y_iload_n (pc' := 103) hB dc_J_placeByLeaps_102 rfl rfl 7 rfl ?_
        refine n_icmp_ge (pc' := 106) (tg := 140) hB dc_J_placeByLeaps_103 rfl rfl (by omega) (by omega) (fun h11 => ?_) (fun h11 => ?_)
        · refine y_sub [1, 2, 3, 4, 5, 6, 7, 8, 9, 10] rfl ?_
          exact back lo c1 (lo + st - 1) (by omega) h3 h4 (fun j q1 q2 => by omega) (by omega) (by omega)
        · refine y_aload_n (pc' := 107) hB dc_J_placeByLeaps_106 rfl rfl 4 rfl ?_
          refine y_aload_n (pc' := 108) hB dc_J_placeByLeaps_107 rfl rfl 5 rfl ?_
          refine f_keys (r := r) (pc' := 111) hB dc_J_placeByLeaps_108 rfl (by omega) q_41 ?_
          refine y_iload (pc' := 113) hB dc_J_placeByLeaps_111 rfl 0 rfl ?_
          refine y_lald (c := 8 + r) (n := 1024) (j := (lo + st) - 1) (pc' := 114) hB dc_J_placeByLeaps_113 rfl (by unfold yN; omega) (yk_row (by omega)).2.1 (by omega) (by decide) ?_
          refine y_aload_n (pc' := 115) hB dc_J_placeByLeaps_114 rfl rfl 5 rfl ?_
          refine f_tags (r := r) (pc' := 118) hB dc_J_placeByLeaps_115 rfl (by omega) q_47 ?_
          refine y_iload (pc' := 120) hB dc_J_placeByLeaps_118 rfl 0 rfl ?_
          refine y_iald (c := 14 + r) (n := 1024) (j := (lo + st) - 1) (pc' := 121) hB dc_J_placeByLeaps_120 rfl (by unfold yN; omega) (yk_row (by omega)).2.2 (by omega) (by decide) ?_
          refine y_lload (pc' := 123) hB dc_J_placeByLeaps_121 rfl 8 rfl ?_
          refine y_iload (pc' := 125) hB dc_J_placeByLeaps_123 rfl 9 rfl ?_
          refine y_callV (c := 20) (ci := 2) (As := [.long (gL (yq S c1) (8 + r) ((lo + st) - 1)), .int (gI (yq S c1) (14 + r) ((lo + st) - 1)), .long (k), .int (t)]) (rest := []) (pc' := 128) hB hE (ct_J_compare o.l o.G (yq S c1) od tg c1 (yJ_yq hJ c1) _ _ _ _) mm_J_compare q_375 q_376 q_377 (by decide) rfl rfl dc_J_placeByLeaps_125 rfl (by decide) rfl rfl (by decide) (fun v S' hpost => ?_)
          obtain ⟨rfl, hSS⟩ := hpost
          rw [hSS]
          clear hSS S'
          show yW o (yq (yq S c1) (c1 + 1)) 128 [(11, .int (nI ((lo + st) - 1))), (10, .int (nI (st))), (9, .int (nI (lo))), (8, .int (yb bh)), (0, .ref (o.G.ad (20))), (1, .ref (o.G.ad (2 + r))), (2, .int (nI (a))), (3, .int (nI (b))), (4, .long (k)), (6, .int (t)), (7, .int (yb bh))] [.int (zg (zq od tg (ye S r (lo + st - 1))) (zq od tg (k, t)))]
          rw [yq_yq]
          refine y_iload (pc' := 130) hB dc_J_placeByLeaps_128 rfl 3 rfl ?_
          refine y_icmp_ge (x := zg (zq od tg (ye S r (lo + st - 1))) (zq od tg (k, t))) (y := yb bh) (pc' := 133) (tg := 140) hB dc_J_placeByLeaps_130 rfl rfl (fun h12 => ?_) (fun h12 => ?_)
          · have h13 : ¬ zcd bh (zq od tg (ye S r (lo + st - 1))) (zq od tg (k, t)) := fun q => by unfold zcd at q; exact absurd q (Int32.not_lt.mpr h12)
            refine y_sub [1, 2, 3, 4, 5, 6, 7, 8, 9, 10] rfl ?_
            exact back lo (c1 + 1) (lo + st - 1) (by omega) h3 h4 (fun j q1 q2 q3 => h13 (mono _ j (by omega) q1 q2 q3)) (by omega) (by omega)
          · have h13 : zcd bh (zq od tg (ye S r (lo + st - 1))) (zq od tg (k, t)) := Int32.not_le.mp h12
            refine y_iload (pc' := 135) hB dc_J_placeByLeaps_133 rfl 2 rfl ?_
            refine y_iload (pc' := 137) hB dc_J_placeByLeaps_135 rfl 1 rfl ?_
            refine n_iadd (x := lo) (y := st) (pc' := 138) hB dc_J_placeByLeaps_137 rfl ?_
            refine y_istore (pc' := 140) (lv' := [(9, .int (nI (lo + st))), (11, .int (nI ((lo + st) - 1))), (10, .int (nI (st))), (8, .int (yb bh)), (0, .ref (o.G.ad (20))), (1, .ref (o.G.ad (2 + r))), (2, .int (nI (a))), (3, .int (nI (b))), (4, .long (k)), (6, .int (t)), (7, .int (yb bh))]) hB hm dc_J_placeByLeaps_138 rfl (by decide) rfl ?_
            refine y_sub [2, 0, 3, 4, 5, 6, 7, 8, 9, 10] rfl ?_
            exact back (lo + st) (c1 + 1) X (by omega) (by omega) (fun j q1 q2 => mono j (lo + st - 1) q1 (by omega) (by omega) h13) h5 (by have := h6.2 (by omega); omega) (by omega)
  have main : yW o S 10 [(0, .ref (o.G.ad (20))), (1, .ref (o.G.ad (2 + r))), (2, .int (nI (a))), (3, .int (nI (b))), (4, .long (k)), (6, .int (t)), (7, .int (yb bh))] [.int (yb bh)] := by
    refine y_istore (pc' := 12) (lv' := [(8, .int (yb bh)), (0, .ref (o.G.ad (20))), (1, .ref (o.G.ad (2 + r))), (2, .int (nI (a))), (3, .int (nI (b))), (4, .long (k)), (6, .int (t)), (7, .int (yb bh))]) hB hm dc_J_placeByLeaps_10 rfl (by decide) rfl ?_
    refine y_iload_n (pc' := 13) hB dc_J_placeByLeaps_12 rfl rfl 3 rfl ?_
    refine y_istore (pc' := 15) (lv' := [(9, .int (nI (a))), (8, .int (yb bh)), (0, .ref (o.G.ad (20))), (1, .ref (o.G.ad (2 + r))), (2, .int (nI (a))), (3, .int (nI (b))), (4, .long (k)), (6, .int (t)), (7, .int (yb bh))]) hB hm dc_J_placeByLeaps_13 rfl (by decide) rfl ?_
    refine y_iconst (v := nI 1) (pc' := 16) hB dc_J_placeByLeaps_15 rfl rfl ?_
    refine y_istore (pc' := 18) (lv' := [(10, .int (nI (1))), (9, .int (nI (a))), (8, .int (yb bh)), (0, .ref (o.G.ad (20))), (1, .ref (o.G.ad (2 + r))), (2, .int (nI (a))), (3, .int (nI (b))), (4, .long (k)), (6, .int (t)), (7, .int (yb bh))]) hB hm dc_J_placeByLeaps_16 rfl (by decide) rfl ?_
    have one : ∀ (d : Nat) (e lo c1 : Nat), b + 1 - lo < d → lo + 1 = a + 2 ^ e → lo ≤ b → (∀ j, a ≤ j → j < lo → zcd bh (zq od tg (ye S r j)) (zq od tg (k, t))) → c1 ≤ c + e → yW o (yq S c1) 18 [(10, .int (nI (2 ^ e))), (9, .int (nI (lo))), (8, .int (yb bh)), (0, .ref (o.G.ad (20))), (1, .ref (o.G.ad (2 + r))), (2, .int (nI (a))), (3, .int (nI (b))), (4, .long (k)), (6, .int (t)), (7, .int (yb bh))] [] := by
      intro d
      induction d with
      | zero => intro e lo c1 hd; omega
      | succ d ih =>
        intro e lo c1 hd h1 h2 h3 h4
        have h5 := zp2 e
        have out : ∀ c2, c2 ≤ c1 + 1 → (∀ j, lo + 2 ^ e - 1 ≤ j → j < b → ¬ zcd bh (zq od tg (ye S r j)) (zq od tg (k, t))) → yW o (yq S c2) 80 [(10, .int (nI (2 ^ e))), (9, .int (nI (lo))), (8, .int (yb bh)), (0, .ref (o.G.ad (20))), (1, .ref (o.G.ad (2 + r))), (2, .int (nI (a))), (3, .int (nI (b))), (4, .long (k)), (6, .int (t)), (7, .int (yb bh))] [] := by
          intro c2 q1 q2
          refine y_iload (pc' := 82) hB dc_J_placeByLeaps_80 rfl 0 rfl ?_
          refine y_iconst (v := nI 2) (pc' := 83) hB dc_J_placeByLeaps_82 rfl rfl ?_
          refine n_idiv (x := 2 ^ e) (y := 2) (pc' := 84) hB dc_J_placeByLeaps_83 rfl (by omega) (by omega) (by omega) ?_
          refine y_istore (pc' := 86) (lv' := [(10, .int (nI ((2 ^ e) / 2))), (9, .int (nI (lo))), (8, .int (yb bh)), (0, .ref (o.G.ad (20))), (1, .ref (o.G.ad (2 + r))), (2, .int (nI (a))), (3, .int (nI (b))), (4, .long (k)), (6, .int (t)), (7, .int (yb bh))]) hB hm dc_J_placeByLeaps_84 rfl (by decide) rfl ?_
          have q3 := zp2_half (s := 2 ^ e) ⟨e, rfl⟩
          refine two (2 ^ e + 1) (2 ^ e / 2) lo c2 e (lo + 2 ^ e - 1) (by omega) ?_ (by omega) h2 h3 q2 ?_ (by omega) (by omega) (by omega)
          · rcases q3 with ⟨-, e1⟩ | ⟨e1, -⟩
            · exact Or.inl e1
            · exact Or.inr e1
          · rcases q3 with ⟨e1, e2⟩ | ⟨-, e1⟩
            · exact ⟨fun _ => by omega, fun q => by omega⟩
            · exact ⟨fun q => by omega, fun _ => by omega⟩
        refine y_iload (pc' := 20) hB dc_J_placeByLeaps_18 rfl 1 rfl ?_
        refine y_iload (pc' := 22) hB dc_J_placeByLeaps_20 rfl 0 rfl ?_
        refine n_iadd (x := lo) (y := 2 ^ e) (pc' := 23) hB dc_J_placeByLeaps_22 rfl ?_
        refine y_iload_n (pc' := 24) hB dc_J_placeByLeaps_23 rfl rfl 6 rfl ?_
        refine n_icmp_gt (pc' := 27) (tg := 80) hB dc_J_placeByLeaps_24 rfl rfl (by omega) (by omega) (fun h => ?_) (fun h => ?_)
        · exact out c1 (by omega) (fun j q1 q2 => by omega)
        · refine y_aload_n (pc' := 28) hB dc_J_placeByLeaps_27 rfl rfl 3 rfl ?_
          refine y_aload_n (pc' := 29) hB dc_J_placeByLeaps_28 rfl rfl 4 rfl ?_
          refine f_keys (r := r) (pc' := 32) hB dc_J_placeByLeaps_29 rfl (by omega) q_41 ?_
          refine y_iload (pc' := 34) hB dc_J_placeByLeaps_32 rfl 1 rfl ?_
          refine y_iload (pc' := 36) hB dc_J_placeByLeaps_34 rfl 0 rfl ?_
          refine n_iadd (x := lo) (y := 2 ^ e) (pc' := 37) hB dc_J_placeByLeaps_36 rfl ?_
          refine y_iconst (v := nI 1) (pc' := 38) hB dc_J_placeByLeaps_37 rfl rfl ?_
          refine n_isub (x := lo + (2 ^ e)) (y := 1) (pc' := 39) hB dc_J_placeByLeaps_38 rfl (by omega) ?_
          refine y_lald (c := 8 + r) (n := 1024) (j := (lo + (2 ^ e)) - 1) (pc' := 40) hB dc_J_placeByLeaps_39 rfl (by unfold yN; omega) (yk_row (by omega)).2.1 (by omega) (by decide) ?_
          refine y_aload_n (pc' := 41) hB dc_J_placeByLeaps_40 rfl rfl 4 rfl ?_
          refine f_tags (r := r) (pc' := 44) hB dc_J_placeByLeaps_41 rfl (by omega) q_47 ?_
          refine y_iload (pc' := 46) hB dc_J_placeByLeaps_44 rfl 1 rfl ?_
          refine y_iload (pc' := 48) hB dc_J_placeByLeaps_46 rfl 0 rfl ?_
          refine n_iadd (x := lo) (y := 2 ^ e) (pc' := 49) hB dc_J_placeByLeaps_48 rfl ?_
          refine y_iconst (v := nI 1) (pc' := 50) hB dc_J_placeByLeaps_49 rfl rfl ?_
          refine n_isub (x := lo + (2 ^ e)) (y := 1) (pc' := 51) hB dc_J_placeByLeaps_50 rfl (by omega) ?_
          refine y_iald (c := 14 + r) (n := 1024) (j := (lo + (2 ^ e)) - 1) (pc' := 52) hB dc_J_placeByLeaps_51 rfl (by unfold yN; omega) (yk_row (by omega)).2.2 (by omega) (by decide) ?_
          refine y_lload (pc' := 54) hB dc_J_placeByLeaps_52 rfl 7 rfl ?_
          refine y_iload (pc' := 56) hB dc_J_placeByLeaps_54 rfl 8 rfl ?_
          refine y_callV (c := 20) (ci := 2) (As := [.long (gL (yq S c1) (8 + r) ((lo + (2 ^ e)) - 1)), .int (gI (yq S c1) (14 + r) ((lo + (2 ^ e)) - 1)), .long (k), .int (t)]) (rest := []) (pc' := 59) hB hE (ct_J_compare o.l o.G (yq S c1) od tg c1 (yJ_yq hJ c1) _ _ _ _) mm_J_compare q_375 q_376 q_377 (by decide) rfl rfl dc_J_placeByLeaps_56 rfl (by decide) rfl rfl (by decide) (fun v S' hpost => ?_)
          obtain ⟨rfl, hSS⟩ := hpost
          rw [hSS]
          clear hSS S'
          show yW o (yq (yq S c1) (c1 + 1)) 59 [(10, .int (nI (2 ^ e))), (9, .int (nI (lo))), (8, .int (yb bh)), (0, .ref (o.G.ad (20))), (1, .ref (o.G.ad (2 + r))), (2, .int (nI (a))), (3, .int (nI (b))), (4, .long (k)), (6, .int (t)), (7, .int (yb bh))] [.int (zg (zq od tg (ye S r (lo + 2 ^ e - 1))) (zq od tg (k, t)))]
          rw [yq_yq]
          refine y_iload (pc' := 61) hB dc_J_placeByLeaps_59 rfl 2 rfl ?_
          refine y_icmp_ge (x := zg (zq od tg (ye S r (lo + 2 ^ e - 1))) (zq od tg (k, t))) (y := yb bh) (pc' := 64) (tg := 80) hB dc_J_placeByLeaps_61 rfl rfl (fun h12 => ?_) (fun h12 => ?_)
          · have h13 : ¬ zcd bh (zq od tg (ye S r (lo + 2 ^ e - 1))) (zq od tg (k, t)) := fun q => by unfold zcd at q; exact absurd q (Int32.not_lt.mpr h12)
            exact out (c1 + 1) (by omega) (fun j q1 q2 q3 => h13 (mono _ j (by omega) q1 q2 q3))
          · have h13 : zcd bh (zq od tg (ye S r (lo + 2 ^ e - 1))) (zq od tg (k, t)) := Int32.not_le.mp h12
            refine y_iload (pc' := 66) hB dc_J_placeByLeaps_64 rfl 1 rfl ?_
            refine y_iload (pc' := 68) hB dc_J_placeByLeaps_66 rfl 0 rfl ?_
            refine n_iadd (x := lo) (y := 2 ^ e) (pc' := 69) hB dc_J_placeByLeaps_68 rfl ?_
            refine y_istore (pc' := 71) (lv' := [(9, .int (nI (lo + (2 ^ e)))), (10, .int (nI (2 ^ e))), (8, .int (yb bh)), (0, .ref (o.G.ad (20))), (1, .ref (o.G.ad (2 + r))), (2, .int (nI (a))), (3, .int (nI (b))), (4, .long (k)), (6, .int (t)), (7, .int (yb bh))]) hB hm dc_J_placeByLeaps_69 rfl (by decide) rfl ?_
            refine y_iload (pc' := 73) hB dc_J_placeByLeaps_71 rfl 1 rfl ?_
            refine y_iconst (v := nI 2) (pc' := 74) hB dc_J_placeByLeaps_73 rfl rfl ?_
            refine n_imul (x := 2 ^ e) (y := 2) (pc' := 75) hB dc_J_placeByLeaps_74 rfl ?_
            refine y_istore (pc' := 77) (lv' := [(10, .int (nI ((2 ^ e) * 2))), (9, .int (nI (lo + (2 ^ e)))), (8, .int (yb bh)), (0, .ref (o.G.ad (20))), (1, .ref (o.G.ad (2 + r))), (2, .int (nI (a))), (3, .int (nI (b))), (4, .long (k)), (6, .int (t)), (7, .int (yb bh))]) hB hm dc_J_placeByLeaps_75 rfl (by decide) rfl ?_
            refine y_goto (tg := 18) hB dc_J_placeByLeaps_77 rfl ?_
            have hp2 : 2 ^ e * 2 = 2 ^ (e + 1) := (Nat.pow_succ ..).symm
            rw [hp2]
            refine ih (e + 1) (lo + 2 ^ e) (c1 + 1) (by omega) (by rw [← hp2]; omega) (by omega) (fun j q1 q2 => mono j (lo + 2 ^ e - 1) q1 (by omega) (by omega) h13) (by omega)
    have h0 := one (b + 2) 0 a c (by omega) (by omega) hab (fun j q1 q2 => by omega) (by omega)
    rw [yq_self hJ] at h0
    exact h0
  refine y_iload (pc' := 2) hB dc_J_placeByLeaps_0 rfl 6 rfl ?_
  refine y_if_eq (x := yb bh) (pc' := 5) (tg := 9) hB dc_J_placeByLeaps_2 rfl rfl (fun h => ?_) (fun h => ?_)
  · rw [yb_0] at h
    subst h
    refine y_iconst (v := nI 0) (pc' := 10) hB dc_J_placeByLeaps_9 rfl rfl ?_
    exact main
  · rw [yb_n] at h
    subst h
    refine y_iconst (v := nI 1) (pc' := 6) hB dc_J_placeByLeaps_5 rfl rfl ?_
    refine y_goto (tg := 10) hB dc_J_placeByLeaps_6 rfl ?_
    exact main
