/-! HEAP -/
theorem dc_H_sink_0 : decode mb_H_sink 0 = .ok (.aload_n 0, 1) := by decide +kernel
theorem dc_H_sink_1 : decode mb_H_sink 1 = .ok (.getfield 19, 3) := by decide +kernel
theorem dc_H_sink_4 : decode mb_H_sink 4 = .ok (.iload_n 2, 1) := by decide +kernel
theorem dc_H_sink_5 : decode mb_H_sink 5 = .ok (.iload_n 3, 1) := by decide +kernel
theorem dc_H_sink_6 : decode mb_H_sink 6 = .ok (.iadd, 1) := by decide +kernel
theorem dc_H_sink_7 : decode mb_H_sink 7 = .ok (.laload, 1) := by decide +kernel
theorem dc_H_sink_8 : decode mb_H_sink 8 = .ok (.lstore 5, 2) := by decide +kernel
theorem dc_H_sink_10 : decode mb_H_sink 10 = .ok (.aload_n 0, 1) := by decide +kernel
theorem dc_H_sink_11 : decode mb_H_sink 11 = .ok (.getfield 23, 3) := by decide +kernel
theorem dc_H_sink_14 : decode mb_H_sink 14 = .ok (.iload_n 2, 1) := by decide +kernel
theorem dc_H_sink_15 : decode mb_H_sink 15 = .ok (.iload_n 3, 1) := by decide +kernel
theorem dc_H_sink_16 : decode mb_H_sink 16 = .ok (.iadd, 1) := by decide +kernel
theorem dc_H_sink_17 : decode mb_H_sink 17 = .ok (.iaload, 1) := by decide +kernel
theorem dc_H_sink_18 : decode mb_H_sink 18 = .ok (.istore 7, 2) := by decide +kernel
theorem dc_H_sink_20 : decode mb_H_sink 20 = .ok (.iload_n 3, 1) := by decide +kernel
theorem dc_H_sink_21 : decode mb_H_sink 21 = .ok (.istore 8, 2) := by decide +kernel
theorem dc_H_sink_23 : decode mb_H_sink 23 = .ok (.iconst 2, 1) := by decide +kernel
theorem dc_H_sink_24 : decode mb_H_sink 24 = .ok (.iload_n 3, 1) := by decide +kernel
theorem dc_H_sink_25 : decode mb_H_sink 25 = .ok (.imul, 1) := by decide +kernel
theorem dc_H_sink_26 : decode mb_H_sink 26 = .ok (.iconst 1, 1) := by decide +kernel
theorem dc_H_sink_27 : decode mb_H_sink 27 = .ok (.iadd, 1) := by decide +kernel
theorem dc_H_sink_28 : decode mb_H_sink 28 = .ok (.istore 9, 2) := by decide +kernel
theorem dc_H_sink_30 : decode mb_H_sink 30 = .ok (.iload 9, 2) := by decide +kernel
theorem dc_H_sink_32 : decode mb_H_sink 32 = .ok (.iload 4, 2) := by decide +kernel
theorem dc_H_sink_34 : decode mb_H_sink 34 = .ok (.if_icmp .ge 94, 3) := by decide +kernel
theorem dc_H_sink_37 : decode mb_H_sink 37 = .ok (.iload 9, 2) := by decide +kernel
theorem dc_H_sink_39 : decode mb_H_sink 39 = .ok (.iconst 1, 1) := by decide +kernel
theorem dc_H_sink_40 : decode mb_H_sink 40 = .ok (.iadd, 1) := by decide +kernel
theorem dc_H_sink_41 : decode mb_H_sink 41 = .ok (.iload 4, 2) := by decide +kernel
theorem dc_H_sink_43 : decode mb_H_sink 43 = .ok (.if_icmp .ge 25, 3) := by decide +kernel
theorem dc_H_sink_46 : decode mb_H_sink 46 = .ok (.aload_n 1, 1) := by decide +kernel
theorem dc_H_sink_47 : decode mb_H_sink 47 = .ok (.aload_n 0, 1) := by decide +kernel
theorem dc_H_sink_48 : decode mb_H_sink 48 = .ok (.iload_n 2, 1) := by decide +kernel
theorem dc_H_sink_49 : decode mb_H_sink 49 = .ok (.iload 9, 2) := by decide +kernel
theorem dc_H_sink_51 : decode mb_H_sink 51 = .ok (.iadd, 1) := by decide +kernel
theorem dc_H_sink_52 : decode mb_H_sink 52 = .ok (.aload_n 0, 1) := by decide +kernel
theorem dc_H_sink_53 : decode mb_H_sink 53 = .ok (.iload_n 2, 1) := by decide +kernel
theorem dc_H_sink_54 : decode mb_H_sink 54 = .ok (.iload 9, 2) := by decide +kernel
theorem dc_H_sink_56 : decode mb_H_sink 56 = .ok (.iadd, 1) := by decide +kernel
theorem dc_H_sink_57 : decode mb_H_sink 57 = .ok (.iconst 1, 1) := by decide +kernel
theorem dc_H_sink_58 : decode mb_H_sink 58 = .ok (.iadd, 1) := by decide +kernel
theorem dc_H_sink_59 : decode mb_H_sink 59 = .ok (.invokevirtual 27, 3) := by decide +kernel
theorem dc_H_sink_62 : decode mb_H_sink 62 = .ok (.ifCond .eq 6, 3) := by decide +kernel
theorem dc_H_sink_65 : decode mb_H_sink 65 = .ok (.iinc 9 1, 3) := by decide +kernel
theorem dc_H_sink_68 : decode mb_H_sink 68 = .ok (.aload_n 1, 1) := by decide +kernel
theorem dc_H_sink_69 : decode mb_H_sink 69 = .ok (.lload 5, 2) := by decide +kernel
theorem dc_H_sink_71 : decode mb_H_sink 71 = .ok (.iload 7, 2) := by decide +kernel
theorem dc_H_sink_73 : decode mb_H_sink 73 = .ok (.aload_n 0, 1) := by decide +kernel
theorem dc_H_sink_74 : decode mb_H_sink 74 = .ok (.getfield 19, 3) := by decide +kernel
theorem dc_H_sink_77 : decode mb_H_sink 77 = .ok (.iload_n 2, 1) := by decide +kernel
theorem dc_H_sink_78 : decode mb_H_sink 78 = .ok (.iload 9, 2) := by decide +kernel
theorem dc_H_sink_80 : decode mb_H_sink 80 = .ok (.iadd, 1) := by decide +kernel
theorem dc_H_sink_81 : decode mb_H_sink 81 = .ok (.laload, 1) := by decide +kernel
theorem dc_H_sink_82 : decode mb_H_sink 82 = .ok (.aload_n 0, 1) := by decide +kernel
theorem dc_H_sink_83 : decode mb_H_sink 83 = .ok (.getfield 23, 3) := by decide +kernel
theorem dc_H_sink_86 : decode mb_H_sink 86 = .ok (.iload_n 2, 1) := by decide +kernel
theorem dc_H_sink_87 : decode mb_H_sink 87 = .ok (.iload 9, 2) := by decide +kernel
theorem dc_H_sink_89 : decode mb_H_sink 89 = .ok (.iadd, 1) := by decide +kernel
theorem dc_H_sink_90 : decode mb_H_sink 90 = .ok (.iaload, 1) := by decide +kernel
theorem dc_H_sink_91 : decode mb_H_sink 91 = .ok (.invokevirtual 33, 3) := by decide +kernel
theorem dc_H_sink_94 : decode mb_H_sink 94 = .ok (.ifCond .lt 6, 3) := by decide +kernel
theorem dc_H_sink_97 : decode mb_H_sink 97 = .ok (.goto 31, 3) := by decide +kernel
theorem dc_H_sink_100 : decode mb_H_sink 100 = .ok (.aload_n 0, 1) := by decide +kernel
theorem dc_H_sink_101 : decode mb_H_sink 101 = .ok (.iload_n 2, 1) := by decide +kernel
theorem dc_H_sink_102 : decode mb_H_sink 102 = .ok (.iload 8, 2) := by decide +kernel
theorem dc_H_sink_104 : decode mb_H_sink 104 = .ok (.iadd, 1) := by decide +kernel
theorem dc_H_sink_105 : decode mb_H_sink 105 = .ok (.aload_n 0, 1) := by decide +kernel
theorem dc_H_sink_106 : decode mb_H_sink 106 = .ok (.iload_n 2, 1) := by decide +kernel
theorem dc_H_sink_107 : decode mb_H_sink 107 = .ok (.iload 9, 2) := by decide +kernel
theorem dc_H_sink_109 : decode mb_H_sink 109 = .ok (.iadd, 1) := by decide +kernel
theorem dc_H_sink_110 : decode mb_H_sink 110 = .ok (.invokevirtual 37, 3) := by decide +kernel
theorem dc_H_sink_113 : decode mb_H_sink 113 = .ok (.iload 9, 2) := by decide +kernel
theorem dc_H_sink_115 : decode mb_H_sink 115 = .ok (.istore 8, 2) := by decide +kernel
theorem dc_H_sink_117 : decode mb_H_sink 117 = .ok (.iconst 2, 1) := by decide +kernel
theorem dc_H_sink_118 : decode mb_H_sink 118 = .ok (.iload 9, 2) := by decide +kernel
theorem dc_H_sink_120 : decode mb_H_sink 120 = .ok (.imul, 1) := by decide +kernel
theorem dc_H_sink_121 : decode mb_H_sink 121 = .ok (.iconst 1, 1) := by decide +kernel
theorem dc_H_sink_122 : decode mb_H_sink 122 = .ok (.iadd, 1) := by decide +kernel
theorem dc_H_sink_123 : decode mb_H_sink 123 = .ok (.istore 9, 2) := by decide +kernel
theorem dc_H_sink_125 : decode mb_H_sink 125 = .ok (.goto (-95), 3) := by decide +kernel
theorem dc_H_sink_128 : decode mb_H_sink 128 = .ok (.aload_n 0, 1) := by decide +kernel
theorem dc_H_sink_129 : decode mb_H_sink 129 = .ok (.iload_n 2, 1) := by decide +kernel
theorem dc_H_sink_130 : decode mb_H_sink 130 = .ok (.iload 8, 2) := by decide +kernel
theorem dc_H_sink_132 : decode mb_H_sink 132 = .ok (.iadd, 1) := by decide +kernel
theorem dc_H_sink_133 : decode mb_H_sink 133 = .ok (.lload 5, 2) := by decide +kernel
theorem dc_H_sink_135 : decode mb_H_sink 135 = .ok (.iload 7, 2) := by decide +kernel
theorem dc_H_sink_137 : decode mb_H_sink 137 = .ok (.invokevirtual 41, 3) := by decide +kernel
theorem dc_H_sink_140 : decode mb_H_sink 140 = .ok (.return_, 1) := by decide +kernel
theorem dc_H_arrange_0 : decode mb_H_arrange 0 = .ok (.iload_n 3, 1) := by decide +kernel
theorem dc_H_arrange_1 : decode mb_H_arrange 1 = .ok (.iload_n 2, 1) := by decide +kernel
theorem dc_H_arrange_2 : decode mb_H_arrange 2 = .ok (.isub, 1) := by decide +kernel
theorem dc_H_arrange_3 : decode mb_H_arrange 3 = .ok (.istore 4, 2) := by decide +kernel
theorem dc_H_arrange_5 : decode mb_H_arrange 5 = .ok (.iload 4, 2) := by decide +kernel
theorem dc_H_arrange_7 : decode mb_H_arrange 7 = .ok (.iconst 2, 1) := by decide +kernel
theorem dc_H_arrange_8 : decode mb_H_arrange 8 = .ok (.idiv, 1) := by decide +kernel
theorem dc_H_arrange_9 : decode mb_H_arrange 9 = .ok (.iconst 1, 1) := by decide +kernel
theorem dc_H_arrange_10 : decode mb_H_arrange 10 = .ok (.isub, 1) := by decide +kernel
theorem dc_H_arrange_11 : decode mb_H_arrange 11 = .ok (.istore 5, 2) := by decide +kernel
theorem dc_H_arrange_13 : decode mb_H_arrange 13 = .ok (.iload 5, 2) := by decide +kernel
theorem dc_H_arrange_15 : decode mb_H_arrange 15 = .ok (.ifCond .lt 19, 3) := by decide +kernel
theorem dc_H_arrange_18 : decode mb_H_arrange 18 = .ok (.aload_n 0, 1) := by decide +kernel
theorem dc_H_arrange_19 : decode mb_H_arrange 19 = .ok (.aload_n 1, 1) := by decide +kernel
theorem dc_H_arrange_20 : decode mb_H_arrange 20 = .ok (.iload_n 2, 1) := by decide +kernel
theorem dc_H_arrange_21 : decode mb_H_arrange 21 = .ok (.iload 5, 2) := by decide +kernel
theorem dc_H_arrange_23 : decode mb_H_arrange 23 = .ok (.iload 4, 2) := by decide +kernel
theorem dc_H_arrange_25 : decode mb_H_arrange 25 = .ok (.invokestatic 7, 3) := by decide +kernel
theorem dc_H_arrange_28 : decode mb_H_arrange 28 = .ok (.iinc 5 (-1), 3) := by decide +kernel
theorem dc_H_arrange_31 : decode mb_H_arrange 31 = .ok (.goto (-18), 3) := by decide +kernel
theorem dc_H_arrange_34 : decode mb_H_arrange 34 = .ok (.iload 4, 2) := by decide +kernel
theorem dc_H_arrange_36 : decode mb_H_arrange 36 = .ok (.iconst 1, 1) := by decide +kernel
theorem dc_H_arrange_37 : decode mb_H_arrange 37 = .ok (.isub, 1) := by decide +kernel
theorem dc_H_arrange_38 : decode mb_H_arrange 38 = .ok (.istore 5, 2) := by decide +kernel
theorem dc_H_arrange_40 : decode mb_H_arrange 40 = .ok (.iload 5, 2) := by decide +kernel
theorem dc_H_arrange_42 : decode mb_H_arrange 42 = .ok (.ifCond .le 27, 3) := by decide +kernel
theorem dc_H_arrange_45 : decode mb_H_arrange 45 = .ok (.aload_n 0, 1) := by decide +kernel
theorem dc_H_arrange_46 : decode mb_H_arrange 46 = .ok (.iload_n 2, 1) := by decide +kernel
theorem dc_H_arrange_47 : decode mb_H_arrange 47 = .ok (.iload_n 2, 1) := by decide +kernel
theorem dc_H_arrange_48 : decode mb_H_arrange 48 = .ok (.iload 5, 2) := by decide +kernel
theorem dc_H_arrange_50 : decode mb_H_arrange 50 = .ok (.iadd, 1) := by decide +kernel
theorem dc_H_arrange_51 : decode mb_H_arrange 51 = .ok (.invokevirtual 13, 3) := by decide +kernel
theorem dc_H_arrange_54 : decode mb_H_arrange 54 = .ok (.aload_n 0, 1) := by decide +kernel
theorem dc_H_arrange_55 : decode mb_H_arrange 55 = .ok (.aload_n 1, 1) := by decide +kernel
theorem dc_H_arrange_56 : decode mb_H_arrange 56 = .ok (.iload_n 2, 1) := by decide +kernel
theorem dc_H_arrange_57 : decode mb_H_arrange 57 = .ok (.iconst 0, 1) := by decide +kernel
theorem dc_H_arrange_58 : decode mb_H_arrange 58 = .ok (.iload 5, 2) := by decide +kernel
theorem dc_H_arrange_60 : decode mb_H_arrange 60 = .ok (.invokestatic 7, 3) := by decide +kernel
theorem dc_H_arrange_63 : decode mb_H_arrange 63 = .ok (.iinc 5 (-1), 3) := by decide +kernel
theorem dc_H_arrange_66 : decode mb_H_arrange 66 = .ok (.goto (-26), 3) := by decide +kernel
theorem dc_H_arrange_69 : decode mb_H_arrange 69 = .ok (.return_, 1) := by decide +kernel
/-- nodes from t on come not before their children -/
def zH {α : Type} (r : α → Int) (f : Nat → α) (a n t : Nat) : Prop := ∀ k c, t ≤ k → (c = 2 * k + 1 ∨ c = 2 * k + 2) → c < n → r (f (a + c)) ≤ r (f (a + k))
theorem zH_root {α : Type} {r : α → Int} {f : Nat → α} {a n : Nat} (h : zH r f a n 0) : ∀ k, k < n → r (f (a + k)) ≤ r (f a) := by
  intro k
  induction k using Nat.strongRecOn with
  | ind k ih =>
    intro hk
    by_cases h0 : k = 0
    · subst h0; exact Int.le_refl _
    · have h1 := ih ((k - 1) / 2) (by omega) (by omega)
      have h2 := h ((k - 1) / 2) k (by omega) (by omega) hk
      omega
/-- a heap but for the hole h, in which x stands -/
def zHo {α : Type} (r : α → Int) (H : Nat → α) (a n t h : Nat) : Prop :=
  (∀ k c, t ≤ k → k ≠ h → (c = 2 * k + 1 ∨ c = 2 * k + 2) → c < n → r (H (a + c)) ≤ r (H (a + k))) ∧
  (∀ k c, t ≤ k → (h = 2 * k + 1 ∨ h = 2 * k + 2) → (c = 2 * h + 1 ∨ c = 2 * h + 2) → c < n → r (H (a + c)) ≤ r (H (a + k)))
theorem zHo_end {α : Type} {r : α → Int} {H : Nat → α} {a n t h : Nat} (h1 : zHo r H a n t h) (h2 : ∀ c, (c = 2 * h + 1 ∨ c = 2 * h + 2) → c < n → r (H (a + c)) ≤ r (H (a + h))) : zH r H a n t := by
  intro k c q1 q2 q3
  by_cases hk : k = h
  · subst hk; exact h2 c q2 q3
  · exact h1.1 k c q1 hk q2 q3
theorem zHo_down {α : Type} {r : α → Int} {H : Nat → α} {a n t h ch : Nat} (h1 : zHo r H a n t h) (hth : t ≤ h) (hc : ch = 2 * h + 1 ∨ ch = 2 * h + 2) (hcn : ch < n) (hs : ∀ c, (c = 2 * h + 1 ∨ c = 2 * h + 2) → c < n → r (H (a + c)) ≤ r (H (a + ch))) (hx : r (H (a + h)) < r (H (a + ch))) : zHo r (zw H (a + h) (a + ch)) a n t ch := by
  have g1 : zw H (a + h) (a + ch) (a + h) = H (a + ch) := by unfold zw; rw [va_up_ne _ _ (by omega), va_up_self]
  have g2 : zw H (a + h) (a + ch) (a + ch) = H (a + h) := by unfold zw; rw [va_up_self]
  have g3 : ∀ k, k ≠ h → k ≠ ch → zw H (a + h) (a + ch) (a + k) = H (a + k) := fun k e1 e2 => by unfold zw; rw [va_up_ne _ _ (by omega), va_up_ne _ _ (by omega)]
  refine ⟨fun k c q1 q2 q3 q4 => ?_, fun k c q1 q2 q3 q4 => ?_⟩
  · by_cases hk : k = h
    · subst hk
      rw [g1]
      by_cases hcc : c = ch
      · subst hcc; rw [g2]; omega
      · rw [g3 c (by omega) hcc]; exact hs c q3 q4
    · rw [g3 k hk q2]
      by_cases hch : c = h
      · subst hch
        rw [g1]
        exact h1.2 k ch q1 q3 hc hcn
      · by_cases hcc : c = ch
        · omega
        · rw [g3 c hch hcc]
          exact h1.1 k c q1 hk q3 q4
  · have hk : k = h := by omega
    subst hk
    rw [g1, g3 c (by omega) (by omega)]
    exact h1.1 ch c (by omega) (by omega) q3 q4
set_option maxHeartbeats 4000000 in
set_option maxRecDepth 100000 in
theorem ct_H_sink (l : Launch) (g : YG) (S : YS) (od : Nat) (tg : Bool) (c : Nat) (hJ : yJ S od tg c) (r : Nat) (hr : r < 6) (a tp n : Nat) (han : a + n ≤ 1024) (htn : tp < n) (hh : zH (zq od tg) (ye S r) a n (tp + 1)) (le : Nat) (hle : n ≤ 2 ^ le) : yC l mn_H_sink mb_H_sink 10 none 4 g [.ref (g.ad (2 + r)), .ref (g.ad (20)), .int (nI (a)), .int (nI (tp)), .int (nI (n))] S (fun v S' => ∃ f' c', v = none ∧ S' = yq (yz S r f') c' ∧ (zs f' a n).Perm (zs (ye S r) a n) ∧ (∀ j, j < a ∨ a + n ≤ j → f' j = (ye S r) j) ∧ zH (zq od tg) f' a n tp ∧ c ≤ c' ∧ c' ≤ c + 2 * le) := by
  refine yC_of (by decide) (Nat.le_of_ble_eq_true rfl) ?_
  intro o hl hg hB0 hE
  subst hl
  subst hg
  have hB : yB o mb_H_sink "OrderBench$Heap" := hB0
  have hm := hE.1
  show yW o (S) 0 [(0, .ref (o.G.ad (2 + r))), (1, .ref (o.G.ad (20))), (2, .int (nI (a))), (3, .int (nI (tp))), (4, .int (nI (n)))] []
  obtain ⟨x, hx⟩ : ∃ z, z = (ye S r) (a + tp) := ⟨_, rfl⟩
  refine y_aload_n (pc' := 1) hB dc_H_sink_0 rfl rfl 0 rfl ?_
  refine f_keys (r := r) (pc' := 4) hB dc_H_sink_1 rfl (by omega) q_39 ?_
  refine y_iload_n (pc' := 5) hB dc_H_sink_4 rfl rfl 2 rfl ?_
  refine y_iload_n (pc' := 6) hB dc_H_sink_5 rfl rfl 3 rfl ?_
  refine n_iadd (x := a) (y := tp) (pc' := 7) hB dc_H_sink_6 rfl ?_
  refine y_lald (c := 8 + r) (n := 1024) (j := a + tp) (pc' := 8) hB dc_H_sink_7 rfl (by unfold yN; omega) (yk_row (by omega)).2.1 (by omega) (by decide) ?_
  refine y_topl (y := x.1) (by rw [hx]; rfl) ?_
  refine y_lstore (pc' := 10) (lv' := [(5, .long (x.1)), (0, .ref (o.G.ad (2 + r))), (1, .ref (o.G.ad (20))), (2, .int (nI (a))), (3, .int (nI (tp))), (4, .int (nI (n)))]) hB hm dc_H_sink_8 rfl (by decide) rfl ?_
  refine y_aload_n (pc' := 11) hB dc_H_sink_10 rfl rfl 1 rfl ?_
  refine f_tags (r := r) (pc' := 14) hB dc_H_sink_11 rfl (by omega) q_46 ?_
  refine y_iload_n (pc' := 15) hB dc_H_sink_14 rfl rfl 3 rfl ?_
  refine y_iload_n (pc' := 16) hB dc_H_sink_15 rfl rfl 4 rfl ?_
  refine n_iadd (x := a) (y := tp) (pc' := 17) hB dc_H_sink_16 rfl ?_
  refine y_iald (c := 14 + r) (n := 1024) (j := a + tp) (pc' := 18) hB dc_H_sink_17 rfl (by unfold yN; omega) (yk_row (by omega)).2.2 (by omega) (by decide) ?_
  refine y_topi (y := x.2) (by rw [hx]; rfl) ?_
  refine y_istore (pc' := 20) (lv' := [(7, .int (x.2)), (5, .long (x.1)), (0, .ref (o.G.ad (2 + r))), (1, .ref (o.G.ad (20))), (2, .int (nI (a))), (3, .int (nI (tp))), (4, .int (nI (n)))]) hB hm dc_H_sink_18 rfl (by decide) rfl ?_
  refine y_iload_n (pc' := 21) hB dc_H_sink_20 rfl rfl 5 rfl ?_
  refine y_istore (pc' := 23) (lv' := [(8, .int (nI (tp))), (7, .int (x.2)), (5, .long (x.1)), (0, .ref (o.G.ad (2 + r))), (1, .ref (o.G.ad (20))), (2, .int (nI (a))), (3, .int (nI (tp))), (4, .int (nI (n)))]) hB hm dc_H_sink_21 rfl (by decide) rfl ?_
  refine y_iconst (v := nI 2) (pc' := 24) hB dc_H_sink_23 rfl rfl ?_
  refine y_iload_n (pc' := 25) hB dc_H_sink_24 rfl rfl 6 rfl ?_
  refine n_imul (x := 2) (y := tp) (pc' := 26) hB dc_H_sink_25 rfl ?_
  refine y_iconst (v := nI 1) (pc' := 27) hB dc_H_sink_26 rfl rfl ?_
  refine n_iadd (x := 2 * tp) (y := 1) (pc' := 28) hB dc_H_sink_27 rfl ?_
  refine y_istore (pc' := 30) (lv' := [(9, .int (nI ((2 * tp) + 1))), (8, .int (nI (tp))), (7, .int (x.2)), (5, .long (x.1)), (0, .ref (o.G.ad (2 + r))), (1, .ref (o.G.ad (20))), (2, .int (nI (a))), (3, .int (nI (tp))), (4, .int (nI (n)))]) hB hm dc_H_sink_28 rfl (by decide) rfl ?_
  have loop : ∀ (d : Nat) (ch h c1 t : Nat) (f1 : Nat → Int64 × Int32), n - h < d → ch = 2 * h + 1 → tp ≤ h → h < n → (zs (va_up f1 (a + h) x) a n).Perm (zs (ye S r) a n) → (∀ j, j < a ∨ a + n ≤ j → f1 j = (ye S r) j) → zHo (zq od tg) (va_up f1 (a + h) x) a n tp h → c1 ≤ c + 2 * t → c ≤ c1 → t ≤ le → 2 ^ t ≤ h + 1 → yW o (yq (yz S r f1) c1) 30 [(9, .int (nI (ch))), (8, .int (nI (h))), (7, .int (x.2)), (5, .long (x.1)), (0, .ref (o.G.ad (2 + r))), (1, .ref (o.G.ad (20))), (2, .int (nI (a))), (3, .int (nI (tp))), (4, .int (nI (n)))] [] := by
    intro d
    induction d with
    | zero => intro ch h c1 t f1 hd; omega
    | succ d ih =>
      intro ch h c1 t f1 hd h0 h1 h2 h3 h4 h5 h6 h6b h7 h8
      have fin : ∀ c2 ch2, c1 ≤ c2 → c2 ≤ c + 2 * le → (∀ c, (c = 2 * h + 1 ∨ c = 2 * h + 2) → c < n → zq od tg ((va_up f1 (a + h) x) (a + c)) ≤ zq od tg x) → yW o (yq (yz S r f1) c2) 128 [(9, .int (nI (ch2))), (8, .int (nI (h))), (7, .int (x.2)), (5, .long (x.1)), (0, .ref (o.G.ad (2 + r))), (1, .ref (o.G.ad (20))), (2, .int (nI (a))), (3, .int (nI (tp))), (4, .int (nI (n)))] [] := by
        intro c2 ch2 q0 q1 q2
        refine y_aload_n (pc' := 129) hB dc_H_sink_128 rfl rfl 4 rfl ?_
        refine y_iload_n (pc' := 130) hB dc_H_sink_129 rfl rfl 6 rfl ?_
        refine y_iload (pc' := 132) hB dc_H_sink_130 rfl 1 rfl ?_
        refine n_iadd (x := a) (y := h) (pc' := 133) hB dc_H_sink_132 rfl ?_
        refine y_lload (pc' := 135) hB dc_H_sink_133 rfl 3 rfl ?_
        refine y_iload (pc' := 137) hB dc_H_sink_135 rfl 2 rfl ?_
        refine y_callV (c := 2 + r) (ci := 1) (As := [.int (nI (a + h)), .long (x.1), .int (x.2)]) (rest := []) (pc' := 140) hB hE (ct_R_put o.l o.G (yq (yz S r f1) c2) r hr (a + h) (by omega) x.1 x.2) mm_R_put q_410 q_226 q_227 (by unfold yN; omega) (yk_row (by omega)).1 rfl dc_H_sink_137 rfl (by decide) rfl rfl (Nat.le_of_ble_eq_true rfl) (fun v S' hpost => ?_)
        obtain ⟨rfl, hSS⟩ := hpost
        rw [hSS]
        clear hSS S'
        show yW o (yz (yq (yz S r f1) c2) r (va_up (ye (yq (yz S r f1) c2) r) (a + h) (x.1, x.2))) 140 [(9, .int (nI (ch2))), (8, .int (nI (h))), (7, .int (x.2)), (5, .long (x.1)), (0, .ref (o.G.ad (2 + r))), (1, .ref (o.G.ad (20))), (2, .int (nI (a))), (3, .int (nI (tp))), (4, .int (nI (n)))] []
        have hS : yz (yq (yz S r f1) c2) r (va_up (ye (yq (yz S r f1) c2) r) (a + h) (x.1, x.2)) = yq (yz S r (va_up f1 (a + h) x)) c2 := by
          rw [ye_yq, ye_yz]
          show yq (yz (yz S r _) r _) c2 = _
          rw [yz_yz]
        rw [hS]
        refine y_vret hB hE dc_H_sink_140 ⟨_, c2, rfl, rfl, h3, fun j hj => ?_, zHo_end h5 (fun c e1 e2 => by rw [va_up_self]; exact q2 c e1 e2), by omega, q1⟩
        rw [va_up_ne _ _ (by omega)]
        exact h4 j hj
      refine y_iload (pc' := 32) hB dc_H_sink_30 rfl 0 rfl ?_
      refine y_iload (pc' := 34) hB dc_H_sink_32 rfl 8 rfl ?_
      refine n_icmp_ge (pc' := 37) (tg := 128) hB dc_H_sink_34 rfl rfl (by omega) (by omega) (fun hb => ?_) (fun hb => ?_)
      · exact fin c1 ch (Nat.le_refl _) (by omega) (fun c e1 e2 => by omega)
      · have t1 : t + 1 ≤ le := by
          have e1 : 2 ^ (t + 1) ≤ 2 ^ le := by rw [Nat.pow_succ]; omega
          exact (Nat.pow_le_pow_iff_right (by decide)).mp e1
        have hf1 : ∀ k, k ≠ h → (va_up f1 (a + h) x) (a + k) = f1 (a + k) := fun k hk => va_up_ne _ _ (by omega)
        have go : ∀ c9 c2, (c9 = 2 * h + 1 ∨ c9 = 2 * h + 2) → c9 < n → (∀ c, (c = 2 * h + 1 ∨ c = 2 * h + 2) → c < n → zq od tg ((va_up f1 (a + h) x) (a + c)) ≤ zq od tg ((va_up f1 (a + h) x) (a + c9))) → c1 ≤ c2 → c2 ≤ c1 + 1 → yW o (yq (yz S r f1) c2) 68 [(9, .int (nI (c9))), (8, .int (nI (h))), (7, .int (x.2)), (5, .long (x.1)), (0, .ref (o.G.ad (2 + r))), (1, .ref (o.G.ad (20))), (2, .int (nI (a))), (3, .int (nI (tp))), (4, .int (nI (n)))] [] := by
          intro c9 c2 q1 q2 q3 q4a q4
          have hr1 : ye (yq (yz S r f1) c2) r = f1 := ye_yz S r f1
          refine y_aload_n (pc' := 69) hB dc_H_sink_68 rfl rfl 5 rfl ?_
          refine y_lload (pc' := 71) hB dc_H_sink_69 rfl 3 rfl ?_
          refine y_iload (pc' := 73) hB dc_H_sink_71 rfl 2 rfl ?_
          refine y_aload_n (pc' := 74) hB dc_H_sink_73 rfl rfl 4 rfl ?_
          refine f_keys (r := r) (pc' := 77) hB dc_H_sink_74 rfl (by omega) q_39 ?_
          refine y_iload_n (pc' := 78) hB dc_H_sink_77 rfl rfl 6 rfl ?_
          refine y_iload (pc' := 80) hB dc_H_sink_78 rfl 0 rfl ?_
          refine n_iadd (x := a) (y := c9) (pc' := 81) hB dc_H_sink_80 rfl ?_
          refine y_lald (c := 8 + r) (n := 1024) (j := a + c9) (pc' := 82) hB dc_H_sink_81 rfl (by unfold yN; omega) (yk_row (by omega)).2.1 (by omega) (by decide) ?_
          refine y_aload_n (pc' := 83) hB dc_H_sink_82 rfl rfl 4 rfl ?_
          refine f_tags (r := r) (pc' := 86) hB dc_H_sink_83 rfl (by omega) q_46 ?_
          refine y_iload_n (pc' := 87) hB dc_H_sink_86 rfl rfl 6 rfl ?_
          refine y_iload (pc' := 89) hB dc_H_sink_87 rfl 0 rfl ?_
          refine n_iadd (x := a) (y := c9) (pc' := 90) hB dc_H_sink_89 rfl ?_
          refine y_iald (c := 14 + r) (n := 1024) (j := a + c9) (pc' := 91) hB dc_H_sink_90 rfl (by unfold yN; omega) (yk_row (by omega)).2.2 (by omega) (by decide) ?_
          refine y_callV (c := 20) (ci := 2) (As := [.long (x.1), .int (x.2), .long (gL (yq (yz S r f1) c2) (8 + r) (a + c9)), .int (gI (yq (yz S r f1) c2) (14 + r) (a + c9))]) (rest := []) (pc' := 94) hB hE (ct_J_compare o.l o.G (yq (yz S r f1) c2) od tg c2 (yJ_yq (yJ_yz hJ r f1) c2) _ _ _ _) mm_J_compare q_408 q_376 q_377 (by decide) rfl rfl dc_H_sink_91 rfl (by decide) rfl rfl (Nat.le_of_ble_eq_true rfl) (fun v S' hpost => ?_)
          obtain ⟨rfl, hSS⟩ := hpost
          rw [hSS]
          clear hSS S'
          show yW o (yq (yq (yz S r f1) c2) (c2 + 1)) 94 [(9, .int (nI (c9))), (8, .int (nI (h))), (7, .int (x.2)), (5, .long (x.1)), (0, .ref (o.G.ad (2 + r))), (1, .ref (o.G.ad (20))), (2, .int (nI (a))), (3, .int (nI (tp))), (4, .int (nI (n)))] [.int (zg (zq od tg x) (zq od tg (ye (yq (yz S r f1) c2) r (a + c9))))]
          rw [yq_yq, hr1]
          refine y_if_lt (x := zg (zq od tg x) (zq od tg (f1 (a + c9)))) (pc' := 97) (tg := 100) hB dc_H_sink_94 rfl rfl (fun h9 => ?_) (fun h9 => ?_)
          · rw [zg_lt] at h9
            refine y_aload_n (pc' := 101) hB dc_H_sink_100 rfl rfl 4 rfl ?_
            refine y_iload_n (pc' := 102) hB dc_H_sink_101 rfl rfl 6 rfl ?_
            refine y_iload (pc' := 104) hB dc_H_sink_102 rfl 1 rfl ?_
            refine n_iadd (x := a) (y := h) (pc' := 105) hB dc_H_sink_104 rfl ?_
            refine y_aload_n (pc' := 106) hB dc_H_sink_105 rfl rfl 4 rfl ?_
            refine y_iload_n (pc' := 107) hB dc_H_sink_106 rfl rfl 6 rfl ?_
            refine y_iload (pc' := 109) hB dc_H_sink_107 rfl 0 rfl ?_
            refine n_iadd (x := a) (y := c9) (pc' := 110) hB dc_H_sink_109 rfl ?_
            refine y_callV (c := 2 + r) (ci := 1) (As := [.int (nI (a + h)), .ref (o.G.ad (2 + r)), .int (nI (a + c9))]) (rest := []) (pc' := 113) hB hE (ct_R_take o.l o.G (yq (yz S r f1) (c2 + 1)) r hr r hr (a + h) (a + c9) (by omega) (by omega)) mm_R_take q_409 q_292 q_293 (by unfold yN; omega) (yk_row (by omega)).1 rfl dc_H_sink_110 rfl (by decide) rfl rfl (Nat.le_of_ble_eq_true rfl) (fun v S' hpost => ?_)
            obtain ⟨rfl, hSS⟩ := hpost
            rw [hSS]
            clear hSS S'
            show yW o (yz (yq (yz S r f1) (c2 + 1)) r (va_up (ye (yq (yz S r f1) (c2 + 1)) r) (a + h) (ye (yq (yz S r f1) (c2 + 1)) r (a + c9)))) 113 [(9, .int (nI (c9))), (8, .int (nI (h))), (7, .int (x.2)), (5, .long (x.1)), (0, .ref (o.G.ad (2 + r))), (1, .ref (o.G.ad (20))), (2, .int (nI (a))), (3, .int (nI (tp))), (4, .int (nI (n)))] []
            have hS : yz (yq (yz S r f1) (c2 + 1)) r (va_up (ye (yq (yz S r f1) (c2 + 1)) r) (a + h) (ye (yq (yz S r f1) (c2 + 1)) r (a + c9))) = yq (yz S r (va_up f1 (a + h) (f1 (a + c9)))) (c2 + 1) := by
              rw [ye_yq, ye_yz]
              show yq (yz (yz S r _) r _) _ = _
              rw [yz_yz]
            rw [hS]
            refine y_iload (pc' := 115) hB dc_H_sink_113 rfl 0 rfl ?_
            refine y_istore (pc' := 117) (lv' := [(8, .int (nI (c9))), (9, .int (nI (c9))), (7, .int (x.2)), (5, .long (x.1)), (0, .ref (o.G.ad (2 + r))), (1, .ref (o.G.ad (20))), (2, .int (nI (a))), (3, .int (nI (tp))), (4, .int (nI (n)))]) hB hm dc_H_sink_115 rfl (by decide) rfl ?_
            refine y_iconst (v := nI 2) (pc' := 118) hB dc_H_sink_117 rfl rfl ?_
            refine y_iload (pc' := 120) hB dc_H_sink_118 rfl 1 rfl ?_
            refine n_imul (x := 2) (y := c9) (pc' := 121) hB dc_H_sink_120 rfl ?_
            refine y_iconst (v := nI 1) (pc' := 122) hB dc_H_sink_121 rfl rfl ?_
            refine n_iadd (x := 2 * c9) (y := 1) (pc' := 123) hB dc_H_sink_122 rfl ?_
            refine y_istore (pc' := 125) (lv' := [(9, .int (nI ((2 * c9) + 1))), (8, .int (nI (c9))), (7, .int (x.2)), (5, .long (x.1)), (0, .ref (o.G.ad (2 + r))), (1, .ref (o.G.ad (20))), (2, .int (nI (a))), (3, .int (nI (tp))), (4, .int (nI (n)))]) hB hm dc_H_sink_123 rfl (by decide) rfl ?_
            refine y_goto (tg := 30) hB dc_H_sink_125 rfl ?_
            refine y_sub [0, 1, 2, 3, 4, 5, 6, 7, 8] rfl ?_
            have e9 : va_up (va_up f1 (a + h) (f1 (a + c9))) (a + c9) x = zw (va_up f1 (a + h) x) (a + h) (a + c9) := zup_zw f1 x (by omega)
            refine ih (2 * c9 + 1) c9 (c2 + 1) (t + 1) _ (by omega) rfl (by omega) q2 ?_ (fun j hj => ?_) ?_ (by omega) (by omega) t1 (by rw [Nat.pow_succ]; omega)
            · rw [e9]; exact (zw_perm _ (by omega) (by omega) (by omega) (by omega)).trans h3
            · rw [va_up_ne _ _ (by omega)]; exact h4 j hj
            · rw [e9]; exact zHo_down h5 h1 q1 q2 q3 (by rw [va_up_self, hf1 c9 (by omega)]; exact h9)
          · rw [zg_lt] at h9
            refine y_goto (tg := 128) hB dc_H_sink_97 rfl ?_
            refine fin (c2 + 1) c9 (by omega) (by omega) (fun c e1 e2 => ?_)
            have e3 := q3 c e1 e2
            rw [hf1 c9 (by omega)] at e3
            omega
        refine y_iload (pc' := 39) hB dc_H_sink_37 rfl 0 rfl ?_
        refine y_iconst (v := nI 1) (pc' := 40) hB dc_H_sink_39 rfl rfl ?_
        refine n_iadd (x := ch) (y := 1) (pc' := 41) hB dc_H_sink_40 rfl ?_
        refine y_iload (pc' := 43) hB dc_H_sink_41 rfl 8 rfl ?_
        refine n_icmp_ge (pc' := 46) (tg := 68) hB dc_H_sink_43 rfl rfl (by omega) (by omega) (fun h10 => ?_) (fun h10 => ?_)
        · exact go ch c1 (Or.inl h0) hb (fun c e1 e2 => by have : c = ch := (by omega); rw [this]; exact Int.le_refl _) (Nat.le_refl _) (by omega)
        · refine y_aload_n (pc' := 47) hB dc_H_sink_46 rfl rfl 5 rfl ?_
          refine y_aload_n (pc' := 48) hB dc_H_sink_47 rfl rfl 4 rfl ?_
          refine y_iload_n (pc' := 49) hB dc_H_sink_48 rfl rfl 6 rfl ?_
          refine y_iload (pc' := 51) hB dc_H_sink_49 rfl 0 rfl ?_
          refine n_iadd (x := a) (y := ch) (pc' := 52) hB dc_H_sink_51 rfl ?_
          refine y_aload_n (pc' := 53) hB dc_H_sink_52 rfl rfl 4 rfl ?_
          refine y_iload_n (pc' := 54) hB dc_H_sink_53 rfl rfl 6 rfl ?_
          refine y_iload (pc' := 56) hB dc_H_sink_54 rfl 0 rfl ?_
          refine n_iadd (x := a) (y := ch) (pc' := 57) hB dc_H_sink_56 rfl ?_
          refine y_iconst (v := nI 1) (pc' := 58) hB dc_H_sink_57 rfl rfl ?_
          refine n_iadd (x := a + ch) (y := 1) (pc' := 59) hB dc_H_sink_58 rfl ?_
          refine y_callV (c := 20) (ci := 2) (As := [.ref (o.G.ad (2 + r)), .int (nI (a + ch)), .ref (o.G.ad (2 + r)), .int (nI ((a + ch) + 1))]) (rest := []) (pc' := 62) hB hE (ct_J_before o.l o.G (yq (yz S r f1) c1) od tg c1 (yJ_yq (yJ_yz hJ r f1) c1) r hr r hr (a + ch) (a + ch + 1) (by omega) (by omega)) mm_J_before q_404 q_405 q_406 (by decide) rfl rfl dc_H_sink_59 rfl (by decide) rfl rfl (Nat.le_of_ble_eq_true rfl) (fun v S' hpost => ?_)
          obtain ⟨rfl, hSS⟩ := hpost
          rw [hSS]
          clear hSS S'
          show yW o (yq (yq (yz S r f1) c1) (c1 + 1)) 62 [(9, .int (nI (ch))), (8, .int (nI (h))), (7, .int (x.2)), (5, .long (x.1)), (0, .ref (o.G.ad (2 + r))), (1, .ref (o.G.ad (20))), (2, .int (nI (a))), (3, .int (nI (tp))), (4, .int (nI (n)))] [.int (yb (decide (zq od tg (ye (yq (yz S r f1) c1) r (a + ch)) < zq od tg (ye (yq (yz S r f1) c1) r (a + ch + 1)))))]
          have hr1 : ye (yq (yz S r f1) c1) r = f1 := ye_yz S r f1
          rw [yq_yq, hr1]
          refine y_if_eq (x := yb (decide (zq od tg (f1 (a + ch)) < zq od tg (f1 (a + ch + 1))))) (pc' := 65) (tg := 68) hB dc_H_sink_62 rfl rfl (fun h11 => ?_) (fun h11 => ?_)
          · rw [yb_0, decide_eq_false_iff_not] at h11
            refine go ch (c1 + 1) (Or.inl h0) hb (fun c e1 e2 => ?_) (by omega) (by omega)
            rw [hf1 c (by omega), hf1 ch (by omega)]
            rcases (show c = ch ∨ c = ch + 1 by omega) with e | e
            · rw [e]; exact Int.le_refl _
            · rw [e, ← Nat.add_assoc]; omega
          · rw [yb_n, decide_eq_true_eq] at h11
            refine n_inc (q := 0) (z := 1) (pc' := 68) (lv' := [(9, .int (nI (ch + 1))), (8, .int (nI (h))), (7, .int (x.2)), (5, .long (x.1)), (0, .ref (o.G.ad (2 + r))), (1, .ref (o.G.ad (20))), (2, .int (nI (a))), (3, .int (nI (tp))), (4, .int (nI (n)))]) hB hm dc_H_sink_65 rfl rfl (by decide) rfl ?_
            refine go (ch + 1) (c1 + 1) (Or.inr (by omega)) h10 (fun c e1 e2 => ?_) (by omega) (by omega)
            rw [hf1 c (by omega), hf1 (ch + 1) (by omega), ← Nat.add_assoc]
            rcases (show c = ch ∨ c = ch + 1 by omega) with e | e
            · rw [e]; omega
            · rw [e, ← Nat.add_assoc]; exact Int.le_refl _
  have eF : va_up (ye S r) (a + tp) x = (ye S r) := by rw [hx]; exact funext fun j => by unfold va_up; split <;> simp_all
  have h0 := loop (n + 1) (2 * tp + 1) tp c 0 (ye S r) (by omega) rfl (Nat.le_refl _) htn (by rw [eF]) (fun _ _ => rfl) (by rw [eF]; exact ⟨fun k c q1 q2 q3 q4 => hh k c (by omega) q3 q4, fun k c q1 q2 => by omega⟩) (by omega) (Nat.le_refl _) (by omega) (by omega)
  rw [yz_self, yq_self hJ] at h0
  exact h0
theorem zheap_mem {α : Type} {f1 f3 : Nat → α} {a m : Nat} (h : (zs f3 a m).Perm (zs (zw f1 a (a + m)) a m)) : ∀ i, i < m → ∃ k, k ≤ m ∧ f3 (a + i) = f1 (a + k) := by
  intro i hi
  have h1 : f3 (a + i) ∈ zs (zw f1 a (a + m)) a m := h.mem_iff.mp (zs_mem.mpr ⟨i, hi, rfl⟩)
  obtain ⟨k, hk, e⟩ := zs_mem.mp h1
  by_cases h0 : k = 0
  · subst h0
    refine ⟨m, Nat.le_refl _, ?_⟩
    unfold zw at e
    rw [va_up_ne _ _ (by omega), Nat.add_zero, va_up_self] at e
    exact e.symm
  · refine ⟨k, by omega, ?_⟩
    unfold zw at e
    rw [va_up_ne _ _ (by omega), va_up_ne _ _ (by omega)] at e
    exact e.symm
theorem zheap_step {α : Type} {r : α → Int} {f1 f3 : Nat → α} {a m n : Nat} (hm : 0 < m) (h : (zs f3 a m).Perm (zs (zw f1 a (a + m)) a m)) (ho : ∀ j, a + m ≤ j → f3 j = zw f1 a (a + m) j) (hH : zH r f1 a (m + 1) 0) (hi : ∀ i j, m < j → i < j → j < n → r (f1 (a + i)) ≤ r (f1 (a + j))) : ∀ i j, m - 1 < j → i < j → j < n → r (f3 (a + i)) ≤ r (f3 (a + j)) := by
  intro i j h1 h2 h3
  have em : f3 (a + m) = f1 a := by rw [ho _ (Nat.le_refl _)]; unfold zw; rw [va_up_self]
  have eo : ∀ j, m < j → f3 (a + j) = f1 (a + j) := fun j hj => by rw [ho _ (by omega)]; unfold zw; rw [va_up_ne _ _ (by omega), va_up_ne _ _ (by omega)]
  by_cases hj : j = m
  · subst hj
    rw [em]
    obtain ⟨k, hk, e⟩ := zheap_mem h i h2
    rw [e]
    exact zH_root hH k (by omega)
  · rw [eo j (by omega)]
    rcases Nat.lt_trichotomy i m with hc | hc | hc
    · obtain ⟨k, hk, e⟩ := zheap_mem h i hc
      rw [e]
      exact hi k j (by omega) (by omega) h3
    · subst hc
      rw [em]
      exact hi 0 j (by omega) (by omega) h3
    · rw [eo i hc]
      exact hi i j (by omega) h2 h3
theorem zheap_zw {α : Type} {r : α → Int} {f : Nat → α} {a m : Nat} (h : zH r f a (m + 1) 0) : zH r (zw f a (a + m)) a m 1 := by
  intro k c q1 q2 q3
  have e : ∀ k, 1 ≤ k → k < m → zw f a (a + m) (a + k) = f (a + k) := fun k h1 h2 => by unfold zw; rw [va_up_ne _ _ (by omega), va_up_ne _ _ (by omega)]
  rw [e c (by omega) q3, e k q1 (by omega)]
  exact h k c (by omega) q2 (by omega)
theorem zperm_more {α : Type} {f g : Nat → α} {a m n : Nat} (hm : m ≤ n) (h : (zs f a m).Perm (zs g a m)) (ho : ∀ j, a + m ≤ j → f j = g j) : (zs f a n).Perm (zs g a n) := by
  rw [zs_split f a hm, zs_split g a hm]
  exact h.append (List.Perm.of_eq (zs_congr (fun j hj => ho _ (by omega))))
set_option maxHeartbeats 4000000 in
set_option maxRecDepth 100000 in
theorem ct_H_arrange2 (l : Launch) (g : YG) (S : YS) (od : Nat) (tg : Bool) (c : Nat) (hJ : yJ S od tg c) (r : Nat) (hr : r < 6) (a n : Nat) (han : a + n ≤ 1024) (hn2 : 2 ≤ n) (le : Nat) (hle : n ≤ 2 ^ le) : yC l mn_H_arrange mb_H_arrange 6 none 5 g [.ref (g.ad (2 + r)), .ref (g.ad (20)), .int (nI (a)), .int (nI (a + n))] S (fun v S' => ∃ f' c', v = none ∧ S' = yq (yz S r f') c' ∧ (zs f' a n).Perm (zs (ye S r) a n) ∧ (∀ j, j < a ∨ a + n ≤ j → f' j = (ye S r) j) ∧ zo (zq od tg) (zs f' a n) ∧ c ≤ c' ∧ c' ≤ c + 2 * le * (n / 2 + n)) := by
  refine yC_of (by decide) (Nat.le_of_ble_eq_true rfl) ?_
  intro o hl hg hB0 hE
  subst hl
  subst hg
  have hB : yB o mb_H_arrange "OrderBench$Heap" := hB0
  have hm := hE.1
  show yW o (S) 0 [(0, .ref (o.G.ad (2 + r))), (1, .ref (o.G.ad (20))), (2, .int (nI (a))), (3, .int (nI (a + n)))] []
  refine y_iload_n (pc' := 1) hB dc_H_arrange_0 rfl rfl 3 rfl ?_
  refine y_iload_n (pc' := 2) hB dc_H_arrange_1 rfl rfl 2 rfl ?_
  refine n_isub (x := a + n) (y := a) (pc' := 3) hB dc_H_arrange_2 rfl (by omega) ?_
  rw [show a + n - a = n by omega]
  refine y_istore (pc' := 5) (lv' := [(4, .int (nI (n))), (0, .ref (o.G.ad (2 + r))), (1, .ref (o.G.ad (20))), (2, .int (nI (a))), (3, .int (nI (a + n)))]) hB hm dc_H_arrange_3 rfl (by decide) rfl ?_
  refine y_iload (pc' := 7) hB dc_H_arrange_5 rfl 0 rfl ?_
  refine y_iconst (v := nI 2) (pc' := 8) hB dc_H_arrange_7 rfl rfl ?_
  refine n_idiv (x := n) (y := 2) (pc' := 9) hB dc_H_arrange_8 rfl (by omega) (by omega) (by omega) ?_
  refine y_iconst (v := nI 1) (pc' := 10) hB dc_H_arrange_9 rfl rfl ?_
  refine n_isub (x := n / 2) (y := 1) (pc' := 11) hB dc_H_arrange_10 rfl (by omega) ?_
  refine y_istore (pc' := 13) (lv' := [(5, .int (nI ((n / 2) - 1))), (4, .int (nI (n))), (0, .ref (o.G.ad (2 + r))), (1, .ref (o.G.ad (20))), (2, .int (nI (a))), (3, .int (nI (a + n)))]) hB hm dc_H_arrange_11 rfl (by decide) rfl ?_
  have down : ∀ (d : Nat) (m c1 : Nat) (f1 : Nat → Int64 × Int32), m < d → m < n → (zs f1 a n).Perm (zs (ye S r) a n) → (∀ j, j < a ∨ a + n ≤ j → f1 j = (ye S r) j) → zH (zq od tg) f1 a (m + 1) 0 → (∀ i j, m < j → i < j → j < n → zq od tg (f1 (a + i)) ≤ zq od tg (f1 (a + j))) → c ≤ c1 → c1 + 2 * le * m ≤ c + 2 * le * (n / 2 + n) → yW o (yq (yz S r f1) c1) 40 [(5, .int (nI (m))), (4, .int (nI (n))), (0, .ref (o.G.ad (2 + r))), (1, .ref (o.G.ad (20))), (2, .int (nI (a))), (3, .int (nI (a + n)))] [] := by
    intro d
    induction d with
    | zero => intro m c1 f1 hd; omega
    | succ d ih =>
      intro m c1 f1 hd k1 k2 k3 k4 k5 k6 k7
      refine y_iload (pc' := 42) hB dc_H_arrange_40 rfl 0 rfl ?_
      refine n_if_le (pc' := 45) (tg := 69) hB dc_H_arrange_42 rfl rfl (by omega) (fun h => ?_) (fun h => ?_)
      · exact y_vret hB hE dc_H_arrange_69 ⟨f1, c1, rfl, rfl, k2, k3, zo_zs.mpr (fun i j q1 q2 => k5 i j (by omega) q1 q2), k6, Nat.le_trans (Nat.le_add_right _ _) k7⟩
      · refine y_aload_n (pc' := 46) hB dc_H_arrange_45 rfl rfl 2 rfl ?_
        refine y_iload_n (pc' := 47) hB dc_H_arrange_46 rfl rfl 4 rfl ?_
        refine y_iload_n (pc' := 48) hB dc_H_arrange_47 rfl rfl 4 rfl ?_
        refine y_iload (pc' := 50) hB dc_H_arrange_48 rfl 0 rfl ?_
        refine n_iadd (x := a) (y := m) (pc' := 51) hB dc_H_arrange_50 rfl ?_
        refine y_callV (c := 2 + r) (ci := 1) (As := [.int (nI (a)), .int (nI (a + m))]) (rest := []) (pc' := 54) hB hE (ct_R_change o.l o.G (yq (yz S r f1) c1) r hr a (a + m) (by omega) (by omega)) mm_R_change q_411 q_288 q_289 (by unfold yN; omega) (yk_row (by omega)).1 rfl dc_H_arrange_51 rfl (by decide) rfl rfl (Nat.le_of_ble_eq_true rfl) (fun v S' hpost => ?_)
        obtain ⟨rfl, hSS⟩ := hpost
        rw [hSS]
        clear hSS S'
        show yW o (yz (yq (yz S r f1) c1) r (zw (ye (yq (yz S r f1) c1) r) a (a + m))) 54 [(5, .int (nI (m))), (4, .int (nI (n))), (0, .ref (o.G.ad (2 + r))), (1, .ref (o.G.ad (20))), (2, .int (nI (a))), (3, .int (nI (a + n)))] []
        have hS : yz (yq (yz S r f1) c1) r (zw (ye (yq (yz S r f1) c1) r) a (a + m)) = yq (yz S r (zw f1 a (a + m))) c1 := by
          rw [ye_yq, ye_yz]
          show yq (yz (yz S r _) r _) _ = _
          rw [yz_yz]
        rw [hS]
        refine y_aload_n (pc' := 55) hB dc_H_arrange_54 rfl rfl 2 rfl ?_
        refine y_aload_n (pc' := 56) hB dc_H_arrange_55 rfl rfl 3 rfl ?_
        refine y_iload_n (pc' := 57) hB dc_H_arrange_56 rfl rfl 4 rfl ?_
        refine y_iconst (v := nI 0) (pc' := 58) hB dc_H_arrange_57 rfl rfl ?_
        refine y_iload (pc' := 60) hB dc_H_arrange_58 rfl 0 rfl ?_
        refine y_callS (As := [.ref (o.G.ad (2 + r)), .ref (o.G.ad (20)), .int (nI (a)), .int (nI (0)), .int (nI (m))]) (rest := []) (pc' := 63) hB hE (ct_H_sink o.l o.G (yq (yz S r (zw f1 a (a + m))) c1) od tg c1 (yJ_yq (yJ_yz hJ r _) c1) r hr a 0 m (by omega) (by omega) (by rw [ye_yq, ye_yz]; exact zheap_zw k4) le (by omega)) mm_H_sink q_401 q_402 dc_H_arrange_60 rfl (by decide) rfl rfl (Nat.le_of_ble_eq_true rfl) (fun v S' hpost => ?_)
        obtain ⟨f3, c3, rfl, rfl, m1, m2, m3, m4a, m4⟩ := hpost
        rw [ye_yq, ye_yz] at m1 m2
        rw [yqz]
        show yW o (yq (yz S r f3) c3) 63 [(5, .int (nI (m))), (4, .int (nI (n))), (0, .ref (o.G.ad (2 + r))), (1, .ref (o.G.ad (20))), (2, .int (nI (a))), (3, .int (nI (a + n)))] []
        refine n_dec (q := 0) (pc' := 66) (lv' := [(5, .int (nI (m - 1))), (4, .int (nI (n))), (0, .ref (o.G.ad (2 + r))), (1, .ref (o.G.ad (20))), (2, .int (nI (a))), (3, .int (nI (a + n)))]) hB hm dc_H_arrange_63 rfl (by omega) rfl (by decide) rfl ?_
        refine y_goto (tg := 40) hB dc_H_arrange_66 rfl ?_
        have hp := zperm_more (show m ≤ n by omega) m1 (fun j hj => m2 j (Or.inr hj))
        refine ih (m - 1) c3 f3 (by omega) (by omega) (hp.trans ((zw_perm f1 (by omega) (by omega) (by omega) (by omega)).trans k2)) (fun j hj => ?_) ?_ (zheap_step h m1 (fun j hj => m2 j (Or.inr hj)) k4 k5) (by omega) ?_
        · rw [m2 j (by omega)]
          unfold zw
          rw [va_up_ne _ _ (by omega), va_up_ne _ _ (by omega)]
          exact k3 j hj
        · rw [show m - 1 + 1 = m by omega]; exact m3
        · have e1 : 2 * le * m = 2 * le * (m - 1) + 2 * le := by rw [← Nat.mul_succ]; congr 1; omega
          generalize 2 * le * (n / 2 + n) = D at k7 ⊢
          generalize 2 * le * (m - 1) = D1 at e1 ⊢
          omega
  have loop : ∀ (d : Nat) (t c1 : Nat) (f1 : Nat → Int64 × Int32), t < d → t ≤ n / 2 → (zs f1 a n).Perm (zs (ye S r) a n) → (∀ j, j < a ∨ a + n ≤ j → f1 j = (ye S r) j) → zH (zq od tg) f1 a n t → c ≤ c1 → c1 + 2 * le * t ≤ c + 2 * le * (n / 2) → yW o (yq (yz S r f1) c1) 13 [(5, .int (nI (t) + Int32.ofInt (-1))), (4, .int (nI (n))), (0, .ref (o.G.ad (2 + r))), (1, .ref (o.G.ad (20))), (2, .int (nI (a))), (3, .int (nI (a + n)))] [] := by
    intro d
    induction d with
    | zero => intro t c1 f1 hd; omega
    | succ d ih =>
      intro t c1 f1 hd h1 h2 h3 h4 h6 h5
      rcases Nat.eq_zero_or_pos t with ht | ht
      · subst ht
        refine y_iload (pc' := 15) hB dc_H_arrange_13 rfl 0 rfl ?_
        refine y_if_lt (x := nI (0) + Int32.ofInt (-1)) (pc' := 18) (tg := 34) hB dc_H_arrange_15 rfl rfl (fun hq => ?_) (fun hq => ?_)
        · refine y_iload (pc' := 36) hB dc_H_arrange_34 rfl 1 rfl ?_
          refine y_iconst (v := nI 1) (pc' := 37) hB dc_H_arrange_36 rfl rfl ?_
          refine n_isub (x := n) (y := 1) (pc' := 38) hB dc_H_arrange_37 rfl (by omega) ?_
          refine y_istore (pc' := 40) (lv' := [(5, .int (nI (n - 1))), (4, .int (nI (n))), (0, .ref (o.G.ad (2 + r))), (1, .ref (o.G.ad (20))), (2, .int (nI (a))), (3, .int (nI (a + n)))]) hB hm dc_H_arrange_38 rfl (by decide) rfl ?_
          refine y_sub [0, 1, 2, 3, 4, 5] rfl ?_
          refine down (n + 1) (n - 1) c1 f1 (by omega) (by omega) h2 h3 (by rw [show n - 1 + 1 = n by omega]; exact h4) (fun i j q1 q2 q3 => by omega) h6 ?_
          rw [Nat.mul_add]
          have e1 : 2 * le * (n - 1) ≤ 2 * le * n := Nat.mul_le_mul_left _ (by omega)
          omega
        · exact absurd (by decide) hq
      · obtain ⟨t, rfl⟩ : ∃ u, t = u + 1 := ⟨t - 1, by omega⟩
        rw [show nI (t + 1) + Int32.ofInt (-1) = nI (t + 1 - 1) from sb_m1 ht, Nat.add_sub_cancel]
        refine y_iload (pc' := 15) hB dc_H_arrange_13 rfl 0 rfl ?_
        refine n_if_lt (pc' := 18) (tg := 34) hB dc_H_arrange_15 rfl rfl (by omega) ?_
        refine y_aload_n (pc' := 19) hB dc_H_arrange_18 rfl rfl 2 rfl ?_
        refine y_aload_n (pc' := 20) hB dc_H_arrange_19 rfl rfl 3 rfl ?_
        refine y_iload_n (pc' := 21) hB dc_H_arrange_20 rfl rfl 4 rfl ?_
        refine y_iload (pc' := 23) hB dc_H_arrange_21 rfl 0 rfl ?_
        refine y_iload (pc' := 25) hB dc_H_arrange_23 rfl 1 rfl ?_
        refine y_callS (As := [.ref (o.G.ad (2 + r)), .ref (o.G.ad (20)), .int (nI (a)), .int (nI (t)), .int (nI (n))]) (rest := []) (pc' := 28) hB hE (ct_H_sink o.l o.G (yq (yz S r f1) c1) od tg c1 (yJ_yq (yJ_yz hJ r _) c1) r hr a t n (by omega) (by omega) (by rw [ye_yq, ye_yz]; exact h4) le hle) mm_H_sink q_401 q_402 dc_H_arrange_25 rfl (by decide) rfl rfl (Nat.le_of_ble_eq_true rfl) (fun v S' hpost => ?_)
        obtain ⟨f3, c3, rfl, rfl, m1, m2, m3, m4a, m4⟩ := hpost
        rw [ye_yq, ye_yz] at m1 m2
        rw [yqz]
        show yW o (yq (yz S r f3) c3) 28 [(5, .int (nI (t))), (4, .int (nI (n))), (0, .ref (o.G.ad (2 + r))), (1, .ref (o.G.ad (20))), (2, .int (nI (a))), (3, .int (nI (a + n)))] []
        refine y_iinc (q := 0) (v := nI (t) + Int32.ofInt (-1)) (pc' := 31) (lv' := [(5, .int (nI (t) + Int32.ofInt (-1))), (4, .int (nI (n))), (0, .ref (o.G.ad (2 + r))), (1, .ref (o.G.ad (20))), (2, .int (nI (a))), (3, .int (nI (a + n)))]) hB hm dc_H_arrange_28 rfl rfl rfl (by decide) rfl ?_
        refine y_goto (tg := 13) hB dc_H_arrange_31 rfl ?_
        refine ih t c3 f3 (by omega) (by omega) (m1.trans h2) (fun j hj => by rw [m2 j hj]; exact h3 j hj) m3 (by omega) ?_
        rw [Nat.mul_succ] at h5
        omega
  have h0 := loop (n + 1) (n / 2) c (ye S r) (by omega) (Nat.le_refl _) (List.Perm.refl _) (fun _ _ => rfl) (fun k c q1 q2 q3 => by omega) (Nat.le_refl _) (Nat.le_refl _)
  rw [yz_self, yq_self hJ, show nI (n / 2) + Int32.ofInt (-1) = nI (n / 2 - 1) from sb_m1 (by omega)] at h0
  exact h0
set_option maxHeartbeats 4000000 in
set_option maxRecDepth 100000 in
theorem ct_H_arrange1 (l : Launch) (g : YG) (S : YS) (od : Nat) (tg : Bool) (c : Nat) (hJ : yJ S od tg c) (r : Nat) (hr : r < 6) (a n : Nat) (han : a + n ≤ 1024) (hn2 : n < 2) (le : Nat) : yC l mn_H_arrange mb_H_arrange 6 none 5 g [.ref (g.ad (2 + r)), .ref (g.ad (20)), .int (nI (a)), .int (nI (a + n))] S (fun v S' => ∃ f' c', v = none ∧ S' = yq (yz S r f') c' ∧ (zs f' a n).Perm (zs (ye S r) a n) ∧ (∀ j, j < a ∨ a + n ≤ j → f' j = (ye S r) j) ∧ zo (zq od tg) (zs f' a n) ∧ c ≤ c' ∧ c' ≤ c + 2 * le * (n / 2 + n)) := by
  refine yC_of (by decide) (Nat.le_of_ble_eq_true rfl) ?_
  intro o hl hg hB0 hE
  subst hl
  subst hg
  have hB : yB o mb_H_arrange "OrderBench$Heap" := hB0
  have hm := hE.1
  show yW o (S) 0 [(0, .ref (o.G.ad (2 + r))), (1, .ref (o.G.ad (20))), (2, .int (nI (a))), (3, .int (nI (a + n)))] []
  refine y_iload_n (pc' := 1) hB dc_H_arrange_0 rfl rfl 3 rfl ?_
  refine y_iload_n (pc' := 2) hB dc_H_arrange_1 rfl rfl 2 rfl ?_
  refine n_isub (x := a + n) (y := a) (pc' := 3) hB dc_H_arrange_2 rfl (by omega) ?_
  rw [show a + n - a = n by omega]
  refine y_istore (pc' := 5) (lv' := [(4, .int (nI (n))), (0, .ref (o.G.ad (2 + r))), (1, .ref (o.G.ad (20))), (2, .int (nI (a))), (3, .int (nI (a + n)))]) hB hm dc_H_arrange_3 rfl (by decide) rfl ?_
  refine y_iload (pc' := 7) hB dc_H_arrange_5 rfl 0 rfl ?_
  refine y_iconst (v := nI 2) (pc' := 8) hB dc_H_arrange_7 rfl rfl ?_
  refine n_idiv (x := n) (y := 2) (pc' := 9) hB dc_H_arrange_8 rfl (by omega) (by omega) (by omega) ?_
  rw [show n / 2 = 0 by omega]
  refine y_iconst (v := nI 1) (pc' := 10) hB dc_H_arrange_9 rfl rfl ?_
  refine y_isub (v := (nI 0) - (nI (1))) (pc' := 11) hB dc_H_arrange_10 rfl rfl ?_
  refine y_istore (pc' := 13) (lv' := [(5, .int ((nI 0) - (nI (1)))), (4, .int (nI (n))), (0, .ref (o.G.ad (2 + r))), (1, .ref (o.G.ad (20))), (2, .int (nI (a))), (3, .int (nI (a + n)))]) hB hm dc_H_arrange_11 rfl (by decide) rfl ?_
  refine y_iload (pc' := 15) hB dc_H_arrange_13 rfl 0 rfl ?_
  refine y_if_lt (x := (nI 0) - (nI (1))) (pc' := 18) (tg := 34) hB dc_H_arrange_15 rfl rfl (fun hq => ?_) (fun hq => ?_)
  · refine y_iload (pc' := 36) hB dc_H_arrange_34 rfl 1 rfl ?_
    have fin : ∀ x : Int32, ¬ 0 < x → yW o S 40 [(5, .int (x)), (4, .int (nI (n))), (0, .ref (o.G.ad (2 + r))), (1, .ref (o.G.ad (20))), (2, .int (nI (a))), (3, .int (nI (a + n)))] [] := by
      intro x hx
      refine y_iload (pc' := 42) hB dc_H_arrange_40 rfl 0 rfl ?_
      refine y_if_le (x := x) (pc' := 45) (tg := 69) hB dc_H_arrange_42 rfl rfl (fun hq2 => ?_) (fun hq2 => ?_)
      · exact y_vret hB hE dc_H_arrange_69 ⟨(ye S r), c, rfl, by rw [yz_self, yq_self hJ], List.Perm.refl _, fun _ _ => rfl, zo_zs.mpr (fun i j q1 q2 => by omega), Nat.le_refl _, by omega⟩
      · exact absurd (Int32.not_le.mp hq2) hx
    refine y_iconst (v := nI 1) (pc' := 37) hB dc_H_arrange_36 rfl rfl ?_
    refine y_isub (v := (nI (n)) - (nI (1))) (pc' := 38) hB dc_H_arrange_37 rfl rfl ?_
    refine y_istore (pc' := 40) (lv' := [(5, .int ((nI (n)) - (nI (1)))), (4, .int (nI (n))), (0, .ref (o.G.ad (2 + r))), (1, .ref (o.G.ad (20))), (2, .int (nI (a))), (3, .int (nI (a + n)))]) hB hm dc_H_arrange_38 rfl (by decide) rfl ?_
    refine y_sub [0, 1, 2, 3, 4, 5] rfl ?_
    refine fin _ ?_
    rcases (show n = 0 ∨ n = 1 by omega) with e | e <;> subst e <;> decide
  · exact absurd (by decide) hq
theorem ct_H_arrange (l : Launch) (g : YG) (S : YS) (od : Nat) (tg : Bool) (c : Nat) (hJ : yJ S od tg c) (r : Nat) (hr : r < 6) (a n : Nat) (han : a + n ≤ 1024) (le : Nat) (hle : n ≤ 2 ^ le) : yC l mn_H_arrange mb_H_arrange 6 none 5 g [.ref (g.ad (2 + r)), .ref (g.ad (20)), .int (nI (a)), .int (nI (a + n))] S (fun v S' => ∃ f' c', v = none ∧ S' = yq (yz S r f') c' ∧ (zs f' a n).Perm (zs (ye S r) a n) ∧ (∀ j, j < a ∨ a + n ≤ j → f' j = (ye S r) j) ∧ zo (zq od tg) (zs f' a n) ∧ c ≤ c' ∧ c' ≤ c + 2 * le * (n / 2 + n)) := by
  by_cases h : 2 ≤ n
  · exact ct_H_arrange2 l g S od tg c hJ r hr a n han h le hle
  · exact ct_H_arrange1 l g S od tg c hJ r hr a n han (by omega) le
