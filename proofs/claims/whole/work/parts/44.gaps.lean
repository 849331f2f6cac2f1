/-! INSERTION: over gaps -/
theorem dc_In_insertOverGap_0 : decode mb_In_insertOverGap 0 = .ok (.aload_n 0, 1) := by decide +kernel
theorem dc_In_insertOverGap_1 : decode mb_In_insertOverGap 1 = .ok (.getfield 7, 3) := by decide +kernel
theorem dc_In_insertOverGap_4 : decode mb_In_insertOverGap 4 = .ok (.iload_n 2, 1) := by decide +kernel
theorem dc_In_insertOverGap_5 : decode mb_In_insertOverGap 5 = .ok (.laload, 1) := by decide +kernel
theorem dc_In_insertOverGap_6 : decode mb_In_insertOverGap 6 = .ok (.lstore 4, 2) := by decide +kernel
theorem dc_In_insertOverGap_8 : decode mb_In_insertOverGap 8 = .ok (.aload_n 0, 1) := by decide +kernel
theorem dc_In_insertOverGap_9 : decode mb_In_insertOverGap 9 = .ok (.getfield 13, 3) := by decide +kernel
theorem dc_In_insertOverGap_12 : decode mb_In_insertOverGap 12 = .ok (.iload_n 2, 1) := by decide +kernel
theorem dc_In_insertOverGap_13 : decode mb_In_insertOverGap 13 = .ok (.iaload, 1) := by decide +kernel
theorem dc_In_insertOverGap_14 : decode mb_In_insertOverGap 14 = .ok (.istore 6, 2) := by decide +kernel
theorem dc_In_insertOverGap_16 : decode mb_In_insertOverGap 16 = .ok (.iload_n 2, 1) := by decide +kernel
theorem dc_In_insertOverGap_17 : decode mb_In_insertOverGap 17 = .ok (.istore 7, 2) := by decide +kernel
theorem dc_In_insertOverGap_19 : decode mb_In_insertOverGap 19 = .ok (.iload 7, 2) := by decide +kernel
theorem dc_In_insertOverGap_21 : decode mb_In_insertOverGap 21 = .ok (.iload_n 3, 1) := by decide +kernel
theorem dc_In_insertOverGap_22 : decode mb_In_insertOverGap 22 = .ok (.if_icmp .lt 52, 3) := by decide +kernel
theorem dc_In_insertOverGap_25 : decode mb_In_insertOverGap 25 = .ok (.aload_n 1, 1) := by decide +kernel
theorem dc_In_insertOverGap_26 : decode mb_In_insertOverGap 26 = .ok (.lload 4, 2) := by decide +kernel
theorem dc_In_insertOverGap_28 : decode mb_In_insertOverGap 28 = .ok (.iload 6, 2) := by decide +kernel
theorem dc_In_insertOverGap_30 : decode mb_In_insertOverGap 30 = .ok (.aload_n 0, 1) := by decide +kernel
theorem dc_In_insertOverGap_31 : decode mb_In_insertOverGap 31 = .ok (.getfield 7, 3) := by decide +kernel
theorem dc_In_insertOverGap_34 : decode mb_In_insertOverGap 34 = .ok (.iload 7, 2) := by decide +kernel
theorem dc_In_insertOverGap_36 : decode mb_In_insertOverGap 36 = .ok (.iload_n 3, 1) := by decide +kernel
theorem dc_In_insertOverGap_37 : decode mb_In_insertOverGap 37 = .ok (.isub, 1) := by decide +kernel
theorem dc_In_insertOverGap_38 : decode mb_In_insertOverGap 38 = .ok (.laload, 1) := by decide +kernel
theorem dc_In_insertOverGap_39 : decode mb_In_insertOverGap 39 = .ok (.aload_n 0, 1) := by decide +kernel
theorem dc_In_insertOverGap_40 : decode mb_In_insertOverGap 40 = .ok (.getfield 13, 3) := by decide +kernel
theorem dc_In_insertOverGap_43 : decode mb_In_insertOverGap 43 = .ok (.iload 7, 2) := by decide +kernel
theorem dc_In_insertOverGap_45 : decode mb_In_insertOverGap 45 = .ok (.iload_n 3, 1) := by decide +kernel
theorem dc_In_insertOverGap_46 : decode mb_In_insertOverGap 46 = .ok (.isub, 1) := by decide +kernel
theorem dc_In_insertOverGap_47 : decode mb_In_insertOverGap 47 = .ok (.iaload, 1) := by decide +kernel
theorem dc_In_insertOverGap_48 : decode mb_In_insertOverGap 48 = .ok (.invokevirtual 44, 3) := by decide +kernel
theorem dc_In_insertOverGap_51 : decode mb_In_insertOverGap 51 = .ok (.ifCond .ge 23, 3) := by decide +kernel
theorem dc_In_insertOverGap_54 : decode mb_In_insertOverGap 54 = .ok (.aload_n 0, 1) := by decide +kernel
theorem dc_In_insertOverGap_55 : decode mb_In_insertOverGap 55 = .ok (.iload 7, 2) := by decide +kernel
theorem dc_In_insertOverGap_57 : decode mb_In_insertOverGap 57 = .ok (.aload_n 0, 1) := by decide +kernel
theorem dc_In_insertOverGap_58 : decode mb_In_insertOverGap 58 = .ok (.iload 7, 2) := by decide +kernel
theorem dc_In_insertOverGap_60 : decode mb_In_insertOverGap 60 = .ok (.iload_n 3, 1) := by decide +kernel
theorem dc_In_insertOverGap_61 : decode mb_In_insertOverGap 61 = .ok (.isub, 1) := by decide +kernel
theorem dc_In_insertOverGap_62 : decode mb_In_insertOverGap 62 = .ok (.invokevirtual 48, 3) := by decide +kernel
theorem dc_In_insertOverGap_65 : decode mb_In_insertOverGap 65 = .ok (.iload 7, 2) := by decide +kernel
theorem dc_In_insertOverGap_67 : decode mb_In_insertOverGap 67 = .ok (.iload_n 3, 1) := by decide +kernel
theorem dc_In_insertOverGap_68 : decode mb_In_insertOverGap 68 = .ok (.isub, 1) := by decide +kernel
theorem dc_In_insertOverGap_69 : decode mb_In_insertOverGap 69 = .ok (.istore 7, 2) := by decide +kernel
theorem dc_In_insertOverGap_71 : decode mb_In_insertOverGap 71 = .ok (.goto (-52), 3) := by decide +kernel
theorem dc_In_insertOverGap_74 : decode mb_In_insertOverGap 74 = .ok (.aload_n 0, 1) := by decide +kernel
theorem dc_In_insertOverGap_75 : decode mb_In_insertOverGap 75 = .ok (.iload 7, 2) := by decide +kernel
theorem dc_In_insertOverGap_77 : decode mb_In_insertOverGap 77 = .ok (.lload 4, 2) := by decide +kernel
theorem dc_In_insertOverGap_79 : decode mb_In_insertOverGap 79 = .ok (.iload 6, 2) := by decide +kernel
theorem dc_In_insertOverGap_81 : decode mb_In_insertOverGap 81 = .ok (.invokevirtual 27, 3) := by decide +kernel
theorem dc_In_insertOverGap_84 : decode mb_In_insertOverGap 84 = .ok (.return_, 1) := by decide +kernel
theorem dc_In_arrangeOverGaps_0 : decode mb_In_arrangeOverGaps 0 = .ok (.getstatic 31, 3) := by decide +kernel
theorem dc_In_arrangeOverGaps_3 : decode mb_In_arrangeOverGaps 3 = .ok (.astore_n 2, 1) := by decide +kernel
theorem dc_In_arrangeOverGaps_4 : decode mb_In_arrangeOverGaps 4 = .ok (.aload_n 2, 1) := by decide +kernel
theorem dc_In_arrangeOverGaps_5 : decode mb_In_arrangeOverGaps 5 = .ok (.arraylength, 1) := by decide +kernel
theorem dc_In_arrangeOverGaps_6 : decode mb_In_arrangeOverGaps 6 = .ok (.istore_n 3, 1) := by decide +kernel
theorem dc_In_arrangeOverGaps_7 : decode mb_In_arrangeOverGaps 7 = .ok (.iconst 0, 1) := by decide +kernel
theorem dc_In_arrangeOverGaps_8 : decode mb_In_arrangeOverGaps 8 = .ok (.istore 4, 2) := by decide +kernel
theorem dc_In_arrangeOverGaps_10 : decode mb_In_arrangeOverGaps 10 = .ok (.iload 4, 2) := by decide +kernel
theorem dc_In_arrangeOverGaps_12 : decode mb_In_arrangeOverGaps 12 = .ok (.iload_n 3, 1) := by decide +kernel
theorem dc_In_arrangeOverGaps_13 : decode mb_In_arrangeOverGaps 13 = .ok (.if_icmp .ge 43, 3) := by decide +kernel
theorem dc_In_arrangeOverGaps_16 : decode mb_In_arrangeOverGaps 16 = .ok (.aload_n 2, 1) := by decide +kernel
theorem dc_In_arrangeOverGaps_17 : decode mb_In_arrangeOverGaps 17 = .ok (.iload 4, 2) := by decide +kernel
theorem dc_In_arrangeOverGaps_19 : decode mb_In_arrangeOverGaps 19 = .ok (.iaload, 1) := by decide +kernel
theorem dc_In_arrangeOverGaps_20 : decode mb_In_arrangeOverGaps 20 = .ok (.istore 5, 2) := by decide +kernel
theorem dc_In_arrangeOverGaps_22 : decode mb_In_arrangeOverGaps 22 = .ok (.iload 5, 2) := by decide +kernel
theorem dc_In_arrangeOverGaps_24 : decode mb_In_arrangeOverGaps 24 = .ok (.istore 6, 2) := by decide +kernel
theorem dc_In_arrangeOverGaps_26 : decode mb_In_arrangeOverGaps 26 = .ok (.iload 6, 2) := by decide +kernel
theorem dc_In_arrangeOverGaps_28 : decode mb_In_arrangeOverGaps 28 = .ok (.aload_n 0, 1) := by decide +kernel
theorem dc_In_arrangeOverGaps_29 : decode mb_In_arrangeOverGaps 29 = .ok (.getfield 36, 3) := by decide +kernel
theorem dc_In_arrangeOverGaps_32 : decode mb_In_arrangeOverGaps 32 = .ok (.if_icmp .ge 18, 3) := by decide +kernel
theorem dc_In_arrangeOverGaps_35 : decode mb_In_arrangeOverGaps 35 = .ok (.aload_n 0, 1) := by decide +kernel
theorem dc_In_arrangeOverGaps_36 : decode mb_In_arrangeOverGaps 36 = .ok (.aload_n 1, 1) := by decide +kernel
theorem dc_In_arrangeOverGaps_37 : decode mb_In_arrangeOverGaps 37 = .ok (.iload 6, 2) := by decide +kernel
theorem dc_In_arrangeOverGaps_39 : decode mb_In_arrangeOverGaps 39 = .ok (.iload 5, 2) := by decide +kernel
theorem dc_In_arrangeOverGaps_41 : decode mb_In_arrangeOverGaps 41 = .ok (.invokestatic 40, 3) := by decide +kernel
theorem dc_In_arrangeOverGaps_44 : decode mb_In_arrangeOverGaps 44 = .ok (.iinc 6 1, 3) := by decide +kernel
theorem dc_In_arrangeOverGaps_47 : decode mb_In_arrangeOverGaps 47 = .ok (.goto (-21), 3) := by decide +kernel
theorem dc_In_arrangeOverGaps_50 : decode mb_In_arrangeOverGaps 50 = .ok (.iinc 4 1, 3) := by decide +kernel
theorem dc_In_arrangeOverGaps_53 : decode mb_In_arrangeOverGaps 53 = .ok (.goto (-43), 3) := by decide +kernel
theorem dc_In_arrangeOverGaps_56 : decode mb_In_arrangeOverGaps 56 = .ok (.return_, 1) := by decide +kernel
theorem zs_at {α : Type} (f : Nat → α) (a : Nat) {p n : Nat} (h : p < n) : zs f a n = zs f a p ++ f (a + p) :: zs f (a + p + 1) (n - p - 1) := by
  rw [zs_split f a (show p ≤ n by omega), show n - p = (n - p - 1) + 1 by omega, zs_cons]
  rfl
theorem zw_lt {α : Type} (f : Nat → α) {a n i j : Nat} (hi : a ≤ i) (hij : i < j) (hj : j < a + n) : (zs (zw f i j) a n).Perm (zs f a n) := by
  have e1 : zs f a n = zs f a (i - a) ++ f i :: (zs f (i + 1) (j - i - 1) ++ f j :: zs f (j + 1) (a + n - j - 1)) := by
    rw [zs_at f a (show i - a < n by omega), show a + (i - a) = i by omega, zs_at f (i + 1) (show j - i - 1 < n - (i - a) - 1 by omega), show i + 1 + (j - i - 1) = j by omega, show n - (i - a) - 1 - (j - i - 1) - 1 = a + n - j - 1 by omega]
  have e2 : zs (zw f i j) a n = zs f a (i - a) ++ f j :: (zs f (i + 1) (j - i - 1) ++ f i :: zs f (j + 1) (a + n - j - 1)) := by
    rw [zs_at (zw f i j) a (show i - a < n by omega), show a + (i - a) = i by omega, zs_at (zw f i j) (i + 1) (show j - i - 1 < n - (i - a) - 1 by omega), show i + 1 + (j - i - 1) = j by omega, show n - (i - a) - 1 - (j - i - 1) - 1 = a + n - j - 1 by omega]
    have g1 : zw f i j i = f j := by unfold zw; rw [va_up_ne _ _ (by omega), va_up_self]
    have g2 : zw f i j j = f i := by unfold zw; rw [va_up_self]
    have g3 : ∀ k, k ≠ i → k ≠ j → zw f i j k = f k := fun k h1 h2 => by unfold zw; rw [va_up_ne _ _ h2, va_up_ne _ _ h1]
    rw [g1, g2]
    congr 1
    · exact zs_congr (fun k hk => g3 _ (by omega) (by omega))
    · congr 1
      congr 1
      · exact zs_congr (fun k hk => g3 _ (by omega) (by omega))
      · congr 1
        exact zs_congr (fun k hk => g3 _ (by omega) (by omega))
  rw [e1, e2]
  refine List.Perm.append_left _ ?_
  refine (List.Perm.cons _ List.perm_middle).trans ?_
  refine (List.Perm.swap _ _ _).trans ?_
  exact List.Perm.cons _ List.perm_middle.symm
theorem zw_comm {α : Type} (f : Nat → α) (i j : Nat) : zw f i j = zw f j i := by
  funext k
  unfold zw va_up
  by_cases h1 : k = j
  · subst h1
    by_cases h2 : k = i
    · subst h2; simp
    · simp [h2]
  · by_cases h2 : k = i
    · subst h2; simp [h1]
    · simp [h1, h2]
theorem zw_perm {α : Type} (f : Nat → α) {a n i j : Nat} (hi : a ≤ i) (hi2 : i < a + n) (hj : a ≤ j) (hj2 : j < a + n) : (zs (zw f i j) a n).Perm (zs f a n) := by
  rcases Nat.lt_trichotomy i j with h | h | h
  · exact zw_lt f hi h hj2
  · subst h
    have : zw f i i = f := by
      funext k
      unfold zw va_up
      by_cases h2 : k = i
      · subst h2; simp
      · simp [h2]
    rw [this]
  · rw [zw_comm]
    exact zw_lt f hj h hi2
theorem zup_zw {α : Type} (f : Nat → α) (x : α) {p q : Nat} (h : q ≠ p) : va_up (va_up f p (f q)) q x = zw (va_up f p x) p q := by
  unfold zw
  rw [va_up_self, va_up_ne _ _ h, bx_uu]
theorem zgap1 {α : Type} {r : α → Int} {f f1 : Nat → α} {x : α} {p i : Nat} (hp : p ≤ i) (h1 : ∀ j, j < p → f1 j = f j) (h2 : ∀ j, p < j → j ≤ i → f1 j = f (j - 1) ∧ r x < r (f (j - 1))) (h3 : p = 0 ∨ r (f (p - 1)) ≤ r x) (ho : zo r (zs f 0 i)) : zo r (zs (va_up f1 p x) 0 (i + 1)) := by
  have e : zs (va_up f1 p x) 0 (i + 1) = zs f 0 p ++ x :: zs f p (i - p) := by
    rw [zs_at _ 0 (show p < i + 1 by omega), Nat.zero_add, va_up_self, show i + 1 - p - 1 = i - p by omega]
    congr 1
    · refine zs_congr (fun j hj => ?_)
      rw [va_up_ne _ _ (by omega)]
      exact h1 _ (by omega)
    · congr 1
      refine zs_congr (fun j hj => ?_)
      rw [va_up_ne _ _ (by omega), (h2 _ (by omega) (by omega)).1]
      congr 1
      omega
  have e2 : zs f 0 i = zs f 0 p ++ zs f p (i - p) := by
    rw [zs_split f 0 hp, Nat.zero_add]
  rw [e]
  rw [e2] at ho
  refine zo_mid ho (fun y hy => ?_) (fun y hy => ?_)
  · obtain ⟨j, hj, rfl⟩ := zs_mem.mp hy
    rw [Nat.zero_add]
    rcases h3 with h3 | h3
    · omega
    · have ho1 := (zo_app.mp ho).1
      rw [zo_zs] at ho1
      by_cases hjp : j = p - 1
      · subst hjp; exact h3
      · have := ho1 j (p - 1) (by omega) (by omega)
        rw [Nat.zero_add, Nat.zero_add] at this
        omega
  · obtain ⟨j, hj, rfl⟩ := zs_mem.mp hy
    have := (h2 (p + j + 1) (by omega) (by omega)).2
    rw [Nat.add_sub_cancel] at this
    omega
set_option maxHeartbeats 4000000 in
set_option maxRecDepth 100000 in
theorem ct_In_insertOverGap (l : Launch) (g : YG) (S : YS) (od : Nat) (tg : Bool) (c : Nat) (hJ : yJ S od tg c) (r : Nat) (hr : r < 6) (n i gp : Nat) (hn : n ≤ 1024) (hi : i < n) (hg : 1 ≤ gp) (hg2 : gp ≤ 1024) : yC l mn_In_insertOverGap mb_In_insertOverGap 8 none 3 g [.ref (g.ad (2 + r)), .ref (g.ad (20)), .int (nI (i)), .int (nI (gp))] S (fun v S' => ∃ f' c', v = none ∧ S' = yq (yz S r f') c' ∧ (zs f' 0 n).Perm (zs (ye S r) 0 n) ∧ (∀ j, i < j → f' j = (ye S r) j) ∧ (gp = 1 → zo (zq od tg) (zs (ye S r) 0 i) → zo (zq od tg) (zs f' 0 (i + 1))) ∧ c ≤ c' ∧ c' ≤ c + i / gp) := by
  refine yC_of (by decide) (Nat.le_of_ble_eq_true rfl) ?_
  intro o hl hg hB0 hE
  subst hl
  subst hg
  have hB : yB o mb_In_insertOverGap "OrderBench$Insertion" := hB0
  have hm := hE.1
  show yW o (S) 0 [(0, .ref (o.G.ad (2 + r))), (1, .ref (o.G.ad (20))), (2, .int (nI (i))), (3, .int (nI (gp)))] []
  obtain ⟨x, hx⟩ : ∃ z, z = (ye S r) i := ⟨_, rfl⟩
  refine y_aload_n (pc' := 1) hB dc_In_insertOverGap_0 rfl rfl 0 rfl ?_
  refine f_keys (r := r) (pc' := 4) hB dc_In_insertOverGap_1 rfl (by omega) q_38 ?_
  refine y_iload_n (pc' := 5) hB dc_In_insertOverGap_4 rfl rfl 2 rfl ?_
  refine y_lald (c := 8 + r) (n := 1024) (j := i) (pc' := 6) hB dc_In_insertOverGap_5 rfl (by unfold yN; omega) (yk_row (by omega)).2.1 (by omega) (by decide) ?_
  refine y_topl (y := x.1) (by rw [hx]; rfl) ?_
  refine y_lstore (pc' := 8) (lv' := [(4, .long (x.1)), (0, .ref (o.G.ad (2 + r))), (1, .ref (o.G.ad (20))), (2, .int (nI (i))), (3, .int (nI (gp)))]) hB hm dc_In_insertOverGap_6 rfl (by decide) rfl ?_
  refine y_aload_n (pc' := 9) hB dc_In_insertOverGap_8 rfl rfl 1 rfl ?_
  refine f_tags (r := r) (pc' := 12) hB dc_In_insertOverGap_9 rfl (by omega) q_45 ?_
  refine y_iload_n (pc' := 13) hB dc_In_insertOverGap_12 rfl rfl 3 rfl ?_
  refine y_iald (c := 14 + r) (n := 1024) (j := i) (pc' := 14) hB dc_In_insertOverGap_13 rfl (by unfold yN; omega) (yk_row (by omega)).2.2 (by omega) (by decide) ?_
  refine y_topi (y := x.2) (by rw [hx]; rfl) ?_
  refine y_istore (pc' := 16) (lv' := [(6, .int (x.2)), (4, .long (x.1)), (0, .ref (o.G.ad (2 + r))), (1, .ref (o.G.ad (20))), (2, .int (nI (i))), (3, .int (nI (gp)))]) hB hm dc_In_insertOverGap_14 rfl (by decide) rfl ?_
  refine y_iload_n (pc' := 17) hB dc_In_insertOverGap_16 rfl rfl 4 rfl ?_
  refine y_istore (pc' := 19) (lv' := [(7, .int (nI (i))), (6, .int (x.2)), (4, .long (x.1)), (0, .ref (o.G.ad (2 + r))), (1, .ref (o.G.ad (20))), (2, .int (nI (i))), (3, .int (nI (gp)))]) hB hm dc_In_insertOverGap_17 rfl (by decide) rfl ?_
  have loop : ∀ (d : Nat) (pl c1 : Nat) (f1 : Nat → Int64 × Int32), pl < d → pl ≤ i → (zs (va_up f1 pl x) 0 n).Perm (zs (ye S r) 0 n) → (∀ j, j < pl → f1 j = (ye S r) j) → (∀ j, i < j → f1 j = (ye S r) j) → (gp = 1 → ∀ j, pl < j → j ≤ i → f1 j = (ye S r) (j - 1) ∧ zq od tg x < zq od tg ((ye S r) (j - 1))) → c1 + pl / gp ≤ c + i / gp → c ≤ c1 → yW o (yq (yz S r f1) c1) 19 [(7, .int (nI (pl))), (6, .int (x.2)), (4, .long (x.1)), (0, .ref (o.G.ad (2 + r))), (1, .ref (o.G.ad (20))), (2, .int (nI (i))), (3, .int (nI (gp)))] [] := by
    intro d
    induction d with
    | zero => intro pl c1 f1 hd; omega
    | succ d ih =>
      intro pl c1 f1 hd h1 h2 h3 h4 h5 h6 h6b
      have fin : ∀ c2, c1 ≤ c2 → c2 ≤ c + i / gp → (gp = 1 → pl = 0 ∨ zq od tg ((ye S r) (pl - 1)) ≤ zq od tg x) → yW o (yq (yz S r f1) c2) 74 [(7, .int (nI (pl))), (6, .int (x.2)), (4, .long (x.1)), (0, .ref (o.G.ad (2 + r))), (1, .ref (o.G.ad (20))), (2, .int (nI (i))), (3, .int (nI (gp)))] [] := by
        intro c2 q0 q1 q2
        refine y_aload_n (pc' := 75) hB dc_In_insertOverGap_74 rfl rfl 3 rfl ?_
        refine y_iload (pc' := 77) hB dc_In_insertOverGap_75 rfl 0 rfl ?_
        refine y_lload (pc' := 79) hB dc_In_insertOverGap_77 rfl 2 rfl ?_
        refine y_iload (pc' := 81) hB dc_In_insertOverGap_79 rfl 1 rfl ?_
        refine y_callV (c := 2 + r) (ci := 1) (As := [.int (nI (pl)), .long (x.1), .int (x.2)]) (rest := []) (pc' := 84) hB hE (ct_R_put o.l o.G (yq (yz S r f1) c2) r hr pl (by omega) x.1 x.2) mm_R_put q_397 q_226 q_227 (by unfold yN; omega) (yk_row (by omega)).1 rfl dc_In_insertOverGap_81 rfl (by decide) rfl rfl (Nat.le_of_ble_eq_true rfl) (fun v S' hpost => ?_)
        obtain ⟨rfl, hSS⟩ := hpost
        rw [hSS]
        clear hSS S'
        show yW o (yz (yq (yz S r f1) c2) r (va_up (ye (yq (yz S r f1) c2) r) pl (x.1, x.2))) 84 [(7, .int (nI (pl))), (6, .int (x.2)), (4, .long (x.1)), (0, .ref (o.G.ad (2 + r))), (1, .ref (o.G.ad (20))), (2, .int (nI (i))), (3, .int (nI (gp)))] []
        have hS : yz (yq (yz S r f1) c2) r (va_up (ye (yq (yz S r f1) c2) r) pl (x.1, x.2)) = yq (yz S r (va_up f1 pl x)) c2 := by
          rw [ye_yq, ye_yz]
          show yq (yz (yz S r _) r _) c2 = _
          rw [yz_yz]
        rw [hS]
        refine y_vret hB hE dc_In_insertOverGap_84 ⟨_, c2, rfl, rfl, h2, fun j hj => ?_, fun hg1 ho => zgap1 h1 h3 (h5 hg1) (q2 hg1) ho, by omega, q1⟩
        rw [va_up_ne _ _ (by omega)]
        exact h4 j hj
      refine y_iload (pc' := 21) hB dc_In_insertOverGap_19 rfl 0 rfl ?_
      refine y_iload_n (pc' := 22) hB dc_In_insertOverGap_21 rfl rfl 6 rfl ?_
      refine n_icmp_lt (pc' := 25) (tg := 74) hB dc_In_insertOverGap_22 rfl rfl (by omega) (by omega) (fun h => ?_) (fun h => ?_)
      · exact fin c1 (Nat.le_refl _) (Nat.le_trans (Nat.le_add_right c1 (pl / gp)) h6) (fun hg1 => by omega)
      · have hr1 : ye (yq (yz S r f1) c1) r = f1 := ye_yz S r f1
        have e0 : f1 (pl - gp) = (ye S r) (pl - gp) := h3 _ (by omega)
        have e1 : pl / gp = (pl - gp) / gp + 1 := Nat.div_eq_sub_div (by omega) (by omega)
        refine y_aload_n (pc' := 26) hB dc_In_insertOverGap_25 rfl rfl 4 rfl ?_
        refine y_lload (pc' := 28) hB dc_In_insertOverGap_26 rfl 2 rfl ?_
        refine y_iload (pc' := 30) hB dc_In_insertOverGap_28 rfl 1 rfl ?_
        refine y_aload_n (pc' := 31) hB dc_In_insertOverGap_30 rfl rfl 3 rfl ?_
        refine f_keys (r := r) (pc' := 34) hB dc_In_insertOverGap_31 rfl (by omega) q_38 ?_
        refine y_iload (pc' := 36) hB dc_In_insertOverGap_34 rfl 0 rfl ?_
        refine y_iload_n (pc' := 37) hB dc_In_insertOverGap_36 rfl rfl 6 rfl ?_
        refine n_isub (x := pl) (y := gp) (pc' := 38) hB dc_In_insertOverGap_37 rfl (by omega) ?_
        refine y_lald (c := 8 + r) (n := 1024) (j := pl - gp) (pc' := 39) hB dc_In_insertOverGap_38 rfl (by unfold yN; omega) (yk_row (by omega)).2.1 (by omega) (by decide) ?_
        refine y_aload_n (pc' := 40) hB dc_In_insertOverGap_39 rfl rfl 3 rfl ?_
        refine f_tags (r := r) (pc' := 43) hB dc_In_insertOverGap_40 rfl (by omega) q_45 ?_
        refine y_iload (pc' := 45) hB dc_In_insertOverGap_43 rfl 0 rfl ?_
        refine y_iload_n (pc' := 46) hB dc_In_insertOverGap_45 rfl rfl 6 rfl ?_
        refine n_isub (x := pl) (y := gp) (pc' := 47) hB dc_In_insertOverGap_46 rfl (by omega) ?_
        refine y_iald (c := 14 + r) (n := 1024) (j := pl - gp) (pc' := 48) hB dc_In_insertOverGap_47 rfl (by unfold yN; omega) (yk_row (by omega)).2.2 (by omega) (by decide) ?_
        refine y_callV (c := 20) (ci := 2) (As := [.long (x.1), .int (x.2), .long (gL (yq (yz S r f1) c1) (8 + r) (pl - gp)), .int (gI (yq (yz S r f1) c1) (14 + r) (pl - gp))]) (rest := []) (pc' := 51) hB hE (ct_J_compare o.l o.G (yq (yz S r f1) c1) od tg c1 (yJ_yq (yJ_yz hJ r f1) c1) _ _ _ _) mm_J_compare q_437 q_376 q_377 (by decide) rfl rfl dc_In_insertOverGap_48 rfl (by decide) rfl rfl (Nat.le_of_ble_eq_true rfl) (fun v S' hpost => ?_)
        obtain ⟨rfl, hSS⟩ := hpost
        rw [hSS]
        clear hSS S'
        show yW o (yq (yq (yz S r f1) c1) (c1 + 1)) 51 [(7, .int (nI (pl))), (6, .int (x.2)), (4, .long (x.1)), (0, .ref (o.G.ad (2 + r))), (1, .ref (o.G.ad (20))), (2, .int (nI (i))), (3, .int (nI (gp)))] [.int (zg (zq od tg x) (zq od tg (ye (yq (yz S r f1) c1) r (pl - gp))))]
        rw [yq_yq, hr1, e0]
        refine y_if_ge (x := zg (zq od tg x) (zq od tg ((ye S r) (pl - gp)))) (pc' := 54) (tg := 74) hB dc_In_insertOverGap_51 rfl rfl (fun h7 => ?_) (fun h7 => ?_)
        · rw [zg_ge] at h7
          exact fin (c1 + 1) (by omega) (Nat.le_trans (Nat.add_le_add_left (Nat.le_add_left 1 ((pl - gp) / gp)) c1) (by rw [← e1]; exact h6)) (fun hg1 => Or.inr (by rw [hg1] at h7; exact h7))
        · rw [zg_ge] at h7
          refine y_aload_n (pc' := 55) hB dc_In_insertOverGap_54 rfl rfl 3 rfl ?_
          refine y_iload (pc' := 57) hB dc_In_insertOverGap_55 rfl 0 rfl ?_
          refine y_aload_n (pc' := 58) hB dc_In_insertOverGap_57 rfl rfl 3 rfl ?_
          refine y_iload (pc' := 60) hB dc_In_insertOverGap_58 rfl 0 rfl ?_
          refine y_iload_n (pc' := 61) hB dc_In_insertOverGap_60 rfl rfl 6 rfl ?_
          refine n_isub (x := pl) (y := gp) (pc' := 62) hB dc_In_insertOverGap_61 rfl (by omega) ?_
          refine y_callV (c := 2 + r) (ci := 1) (As := [.int (nI (pl)), .ref (o.G.ad (2 + r)), .int (nI (pl - gp))]) (rest := []) (pc' := 65) hB hE (ct_R_take o.l o.G (yq (yz S r f1) (c1 + 1)) r hr r hr pl (pl - gp) (by omega) (by omega)) mm_R_take q_438 q_292 q_293 (by unfold yN; omega) (yk_row (by omega)).1 rfl dc_In_insertOverGap_62 rfl (by decide) rfl rfl (Nat.le_of_ble_eq_true rfl) (fun v S' hpost => ?_)
          obtain ⟨rfl, hSS⟩ := hpost
          rw [hSS]
          clear hSS S'
          show yW o (yz (yq (yz S r f1) (c1 + 1)) r (va_up (ye (yq (yz S r f1) (c1 + 1)) r) pl (ye (yq (yz S r f1) (c1 + 1)) r (pl - gp)))) 65 [(7, .int (nI (pl))), (6, .int (x.2)), (4, .long (x.1)), (0, .ref (o.G.ad (2 + r))), (1, .ref (o.G.ad (20))), (2, .int (nI (i))), (3, .int (nI (gp)))] []
          have hS : yz (yq (yz S r f1) (c1 + 1)) r (va_up (ye (yq (yz S r f1) (c1 + 1)) r) pl (ye (yq (yz S r f1) (c1 + 1)) r (pl - gp))) = yq (yz S r (va_up f1 pl (f1 (pl - gp)))) (c1 + 1) := by
            rw [ye_yq, ye_yz]
            show yq (yz (yz S r _) r _) _ = _
            rw [yz_yz]
          rw [hS]
          refine y_iload (pc' := 67) hB dc_In_insertOverGap_65 rfl 0 rfl ?_
          refine y_iload_n (pc' := 68) hB dc_In_insertOverGap_67 rfl rfl 6 rfl ?_
          refine n_isub (x := pl) (y := gp) (pc' := 69) hB dc_In_insertOverGap_68 rfl (by omega) ?_
          refine y_istore (pc' := 71) (lv' := [(7, .int (nI (pl - gp))), (6, .int (x.2)), (4, .long (x.1)), (0, .ref (o.G.ad (2 + r))), (1, .ref (o.G.ad (20))), (2, .int (nI (i))), (3, .int (nI (gp)))]) hB hm dc_In_insertOverGap_69 rfl (by decide) rfl ?_
          refine y_goto (tg := 19) hB dc_In_insertOverGap_71 rfl ?_
          refine y_sub [0, 1, 2, 3, 4, 5, 6] rfl ?_
          refine ih (pl - gp) (c1 + 1) _ (by omega) (by omega) ?_ (fun j hj => ?_) (fun j hj => ?_) (fun hg1 j q1 q2 => ?_) (by omega) (by omega)
          · rw [zup_zw f1 x (by omega)]
            exact (zw_perm _ (by omega) (by omega) (by omega) (by omega)).trans h2
          · rw [va_up_ne _ _ (by omega)]; exact h3 j (by omega)
          · rw [va_up_ne _ _ (by omega)]; exact h4 j hj
          · by_cases hj : j = pl
            · subst hj
              rw [va_up_self, e0, hg1]
              rw [hg1] at h7
              exact ⟨rfl, by omega⟩
            · rw [va_up_ne _ _ hj]
              exact h5 hg1 j (by omega) q2
  have h0 := loop (i + 1) i c (ye S r) (by omega) (Nat.le_refl _) (by rw [hx, show va_up (ye S r) i ((ye S r) i) = (ye S r) from funext fun j => by unfold va_up; split <;> simp_all]) (fun _ _ => rfl) (fun _ _ => rfl) (fun _ j q1 q2 => by omega) (Nat.le_refl _) (Nat.le_refl _)
  rw [yz_self, yq_self hJ] at h0
  exact h0
section YGP
variable {o : YO} {b : ByteArray} {own : String} {S : YS} {pc pc' ix gp : Nat} {lv : List (Nat × Value)} {st : List Value}
theorem y_gaps (hB : yB o b own) (hd : decode b pc = .ok (.getstatic ix, 3)) (hp : pc + 3 = pc') (hl : Cond.fieldLink own ix "OrderBench$Insertion" "GAPS" "[I" ∈ yL) (hZ : va_Z "OrderBench$Insertion" "GAPS" "[I" (.ref gp) (yA o.G.B) o.s o.s.heap) (kk : yW o S pc' lv (.ref gp :: st)) : yW o S pc lv st := by
  subst hp
  exact fun ls H locs hl' hH => va_gets hB.1 hB.2.1 hZ hH.2 hB.2.2.1 (hB.at hl) (fun x h => h) hd (kk ls H locs hl' hH)
theorem y_gapn (hB : yB o b own) (hd : decode b pc = .ok (.arraylength, 1)) (hp : pc + 1 = pc') (hT : va_T .int gp 8 (fun k => .int (nI (zgaps k))) (yA o.G.B) o.s o.s.heap) (kk : yW o S pc' lv (.int (nI 8) :: st)) : yW o S pc lv (.ref gp :: st) := by
  subst hp
  exact fun ls H locs hl' hH => va_tlen hB.1 hB.2.1 hT hH.2 rfl hd (kk ls H locs hl' hH)
theorem y_gapl {k : Nat} (hB : yB o b own) (hd : decode b pc = .ok (.iaload, 1)) (hp : pc + 1 = pc') (hT : va_T .int gp 8 (fun k => .int (nI (zgaps k))) (yA o.G.B) o.s o.s.heap) (hk : k < 8) (kk : yW o S pc' lv (.int (nI (zgaps k)) :: st)) : yW o S pc lv (.int (nI k) :: .ref gp :: st) := by
  subst hp
  exact fun ls H locs hl' hH => va_ti hB.1 hB.2.1 hT hH.2 (vp_in_nI hk (by decide)) (by rw [nI_clamp (by omega)]) hd (kk ls H locs hl' hH)
end YGP
theorem zgaps_in : ∀ k, k < 8 → 1 ≤ zgaps k ∧ zgaps k ≤ 701 := by decide
/-- what the first k gaps may cost -/
def zgs (n : Nat) : Nat → Nat
  | 0 => 0
  | k + 1 => zgs n k + n * n / (2 * zgaps k)
theorem zgs_8 (n : Nat) : zgs n 8 ≤ n * n := by
  show 0 + n * n / (2 * 701) + n * n / (2 * 301) + n * n / (2 * 132) + n * n / (2 * 57) + n * n / (2 * 23) + n * n / (2 * 10) + n * n / (2 * 4) + n * n / (2 * 1) ≤ n * n
  generalize n * n = N
  have k : ∀ m, 16 ≤ m → N / m ≤ N / 16 := fun m hm => Nat.div_le_div_left hm (by decide)
  have k1 := k (2 * 701) (by decide)
  have k2 := k (2 * 301) (by decide)
  have k3 := k (2 * 132) (by decide)
  have k4 := k (2 * 57) (by decide)
  have k5 := k (2 * 23) (by decide)
  have k6 := k (2 * 10) (by decide)
  generalize N / (2 * 701) = a1 at *
  generalize N / (2 * 301) = a2 at *
  generalize N / (2 * 132) = a3 at *
  generalize N / (2 * 57) = a4 at *
  generalize N / (2 * 23) = a5 at *
  generalize N / (2 * 10) = a6 at *
  clear k
  have e : N / (2 * 4) ≤ N / 8 := Nat.le_refl _
  omega
set_option maxHeartbeats 4000000 in
set_option maxRecDepth 100000 in
theorem ct_In_arrangeOverGaps (l : Launch) (g : YG) (S : YS) (od : Nat) (tg : Bool) (c : Nat) (hJ : yJ S od tg c) (r : Nat) (hr : r < 6) (n : Nat) (hn : n ≤ 1024) (hc : gF S (2 + r) 2 = nI n) : yC l mn_In_arrangeOverGaps mb_In_arrangeOverGaps 7 none 4 g [.ref (g.ad (2 + r)), .ref (g.ad (20))] S (fun v S' => ∃ f' c', v = none ∧ S' = yq (yz S r f') c' ∧ (zs f' 0 n).Perm (zs (ye S r) 0 n) ∧ (∀ j, n ≤ j → f' j = (ye S r) j) ∧ zo (zq od tg) (zs f' 0 n) ∧ c' ≤ c + n * n) := by
  refine yC_of (by decide) (Nat.le_of_ble_eq_true rfl) ?_
  intro o hl hg hB0 hE
  subst hl
  subst hg
  have hB : yB o mb_In_arrangeOverGaps "OrderBench$Insertion" := hB0
  have hm := hE.1
  show yW o (S) 0 [(0, .ref (o.G.ad (2 + r))), (1, .ref (o.G.ad (20)))] []
  obtain ⟨⟨gq, hZ, hT⟩, -⟩ := hB.2.2.2.2.2.2.2.2.2
  refine y_gaps (gp := gq) (pc' := 3) hB dc_In_arrangeOverGaps_0 rfl q_432 hZ ?_
  refine y_astore_n (pc' := 4) (lv' := [(2, .ref (gq)), (0, .ref (o.G.ad (2 + r))), (1, .ref (o.G.ad (20)))]) hB hm dc_In_arrangeOverGaps_3 rfl rfl (by decide) rfl ?_
  refine y_aload_n (pc' := 5) hB dc_In_arrangeOverGaps_4 rfl rfl 0 rfl ?_
  refine y_gapn (pc' := 6) hB dc_In_arrangeOverGaps_5 rfl hT ?_
  refine y_istore_n (pc' := 7) (lv' := [(3, .int (nI (8))), (2, .ref (gq)), (0, .ref (o.G.ad (2 + r))), (1, .ref (o.G.ad (20)))]) hB hm dc_In_arrangeOverGaps_6 rfl rfl (by decide) rfl ?_
  refine y_iconst (v := nI 0) (pc' := 8) hB dc_In_arrangeOverGaps_7 rfl rfl ?_
  refine y_istore (pc' := 10) (lv' := [(4, .int (nI (0))), (3, .int (nI (8))), (2, .ref (gq)), (0, .ref (o.G.ad (2 + r))), (1, .ref (o.G.ad (20)))]) hB hm dc_In_arrangeOverGaps_8 rfl (by decide) rfl ?_
  have outer : ∀ (d : Nat) (k c1 : Nat) (f1 : Nat → Int64 × Int32), 8 - k < d → k ≤ 8 → (zs f1 0 n).Perm (zs (ye S r) 0 n) → (∀ j, n ≤ j → f1 j = (ye S r) j) → (k = 8 → zo (zq od tg) (zs f1 0 n)) → c1 ≤ c + zgs n k → yW o (yq (yz S r f1) c1) 10 [(4, .int (nI (k))), (3, .int (nI (8))), (2, .ref (gq)), (0, .ref (o.G.ad (2 + r))), (1, .ref (o.G.ad (20)))] [] := by
    intro d
    induction d with
    | zero => intro k c1 f1 hd; omega
    | succ d ih =>
      intro k c1 f1 hd h1 h2 h3 h4 h5
      refine y_iload (pc' := 12) hB dc_In_arrangeOverGaps_10 rfl 0 rfl ?_
      refine y_iload_n (pc' := 13) hB dc_In_arrangeOverGaps_12 rfl rfl 1 rfl ?_
      refine n_icmp_ge (pc' := 16) (tg := 56) hB dc_In_arrangeOverGaps_13 rfl rfl (by omega) (by omega) (fun h => ?_) (fun h => ?_)
      · have e1 : k = 8 := by omega
        subst e1
        exact y_vret hB hE dc_In_arrangeOverGaps_56 ⟨f1, c1, rfl, rfl, h2, h3, h4 rfl, Nat.le_trans h5 (Nat.add_le_add_left (zgs_8 n) c)⟩
      · refine y_aload_n (pc' := 17) hB dc_In_arrangeOverGaps_16 rfl rfl 2 rfl ?_
        refine y_iload (pc' := 19) hB dc_In_arrangeOverGaps_17 rfl 0 rfl ?_
        refine y_gapl (k := k) (pc' := 20) hB dc_In_arrangeOverGaps_19 rfl hT h ?_
        obtain ⟨b1, b2⟩ := zgaps_in k h
        obtain ⟨gp, hgp⟩ : ∃ z, z = zgaps k := ⟨_, rfl⟩
        rw [← hgp] at b1 b2 ⊢
        refine y_istore (pc' := 22) (lv' := [(5, .int (nI (gp))), (4, .int (nI (k))), (3, .int (nI (8))), (2, .ref (gq)), (0, .ref (o.G.ad (2 + r))), (1, .ref (o.G.ad (20)))]) hB hm dc_In_arrangeOverGaps_20 rfl (by decide) rfl ?_
        refine y_iload (pc' := 24) hB dc_In_arrangeOverGaps_22 rfl 0 rfl ?_
        refine y_istore (pc' := 26) (lv' := [(6, .int (nI (gp))), (5, .int (nI (gp))), (4, .int (nI (k))), (3, .int (nI (8))), (2, .ref (gq)), (0, .ref (o.G.ad (2 + r))), (1, .ref (o.G.ad (20)))]) hB hm dc_In_arrangeOverGaps_24 rfl (by decide) rfl ?_
        have inner : ∀ (d2 : Nat) (i e : Nat) (f2 : Nat → Int64 × Int32), 1024 - i < d2 → gp ≤ i → (zs f2 0 n).Perm (zs (ye S r) 0 n) → (∀ j, n ≤ j → f2 j = (ye S r) j) → (gp = 1 → zo (zq od tg) (zs f2 0 (min i n))) → 2 * (gp * e) ≤ i * i → (n ≤ i → 2 * (gp * e) ≤ n * n) → i ≤ 1024 + gp → yW o (yq (yz S r f2) (c1 + e)) 26 [(6, .int (nI (i))), (5, .int (nI (gp))), (4, .int (nI (k))), (3, .int (nI (8))), (2, .ref (gq)), (0, .ref (o.G.ad (2 + r))), (1, .ref (o.G.ad (20)))] [] := by
          intro d2
          induction d2 with
          | zero => intro i e f2 hd2; omega
          | succ d2 ih2 =>
            intro i e f2 hd2 k1 k2 k3 k4 k5 k6 k7
            refine y_iload (pc' := 28) hB dc_In_arrangeOverGaps_26 rfl 0 rfl ?_
            refine y_aload_n (pc' := 29) hB dc_In_arrangeOverGaps_28 rfl rfl 5 rfl ?_
            refine f_count (r := r) (pc' := 32) hB dc_In_arrangeOverGaps_29 rfl (by omega) q_54 ?_
            refine y_topi (y := nI (n)) ((gF_yq (yz S r f2) (c1 + e) r hr).trans hc) ?_
            refine n_icmp_ge (pc' := 35) (tg := 50) hB dc_In_arrangeOverGaps_32 rfl rfl (by omega) (by omega) (fun h7 => ?_) (fun h7 => ?_)
            · refine n_inc (q := 2) (z := 1) (pc' := 53) (lv' := [(4, .int (nI (k + 1))), (6, .int (nI (i))), (5, .int (nI (gp))), (3, .int (nI (8))), (2, .ref (gq)), (0, .ref (o.G.ad (2 + r))), (1, .ref (o.G.ad (20)))]) hB hm dc_In_arrangeOverGaps_50 rfl rfl (by decide) rfl ?_
              refine y_goto (tg := 10) hB dc_In_arrangeOverGaps_53 rfl ?_
              refine y_sub [0, 3, 4, 5, 6] rfl ?_
              refine ih (k + 1) (c1 + e) f2 (by omega) (by omega) k2 k3 (fun q => ?_) ?_
              · have g1 : gp = 1 := by rw [hgp, show k = 7 by omega]; decide
                have := k4 g1
                rwa [show min i n = n by omega] at this
              · show c1 + e ≤ c + (zgs n k + n * n / (2 * zgaps k))
                rw [← hgp]
                have g2 : e ≤ n * n / (2 * gp) := (Nat.le_div_iff_mul_le (by omega)).mpr (by rw [show e * (2 * gp) = 2 * (gp * e) by rw [Nat.mul_comm e, Nat.mul_assoc]]; exact k6 h7)
                generalize n * n / (2 * gp) = D at g2 ⊢
                omega
            · refine y_aload_n (pc' := 36) hB dc_In_arrangeOverGaps_35 rfl rfl 5 rfl ?_
              refine y_aload_n (pc' := 37) hB dc_In_arrangeOverGaps_36 rfl rfl 6 rfl ?_
              refine y_iload (pc' := 39) hB dc_In_arrangeOverGaps_37 rfl 0 rfl ?_
              refine y_iload (pc' := 41) hB dc_In_arrangeOverGaps_39 rfl 1 rfl ?_
              refine y_callS (As := [.ref (o.G.ad (2 + r)), .ref (o.G.ad (20)), .int (nI (i)), .int (nI (gp))]) (rest := []) (pc' := 44) hB hE (ct_In_insertOverGap o.l o.G (yq (yz S r f2) (c1 + e)) od tg (c1 + e) (yJ_yq (yJ_yz hJ r f2) (c1 + e)) r hr n i gp hn h7 b1 (by omega)) mm_In_insertOverGap q_434 q_435 dc_In_arrangeOverGaps_41 rfl (by decide) rfl rfl (Nat.le_of_ble_eq_true rfl) (fun v S' hpost => ?_)
              obtain ⟨f3, c3, rfl, rfl, m1, m2, m3, m4a, m4⟩ := hpost
              rw [ye_yq, ye_yz] at m1 m2 m3
              rw [yqz]
              show yW o (yq (yz S r f3) c3) 44 [(6, .int (nI (i))), (5, .int (nI (gp))), (4, .int (nI (k))), (3, .int (nI (8))), (2, .ref (gq)), (0, .ref (o.G.ad (2 + r))), (1, .ref (o.G.ad (20)))] []
              refine n_inc (q := 0) (z := 1) (pc' := 47) (lv' := [(6, .int (nI (i + 1))), (5, .int (nI (gp))), (4, .int (nI (k))), (3, .int (nI (8))), (2, .ref (gq)), (0, .ref (o.G.ad (2 + r))), (1, .ref (o.G.ad (20)))]) hB hm dc_In_arrangeOverGaps_44 rfl rfl (by decide) rfl ?_
              refine y_goto (tg := 26) hB dc_In_arrangeOverGaps_47 rfl ?_
              obtain ⟨t, ht⟩ : ∃ t, c3 = c1 + (e + t) := ⟨c3 - (c1 + e), by omega⟩
              subst ht
              have ht2 : gp * t ≤ i := by
                have g1 : t ≤ i / gp := by generalize i / gp = D at m4; omega
                exact Nat.le_trans (Nat.mul_le_mul_left gp g1) (Nat.mul_div_le i gp)
              have ht3 : 2 * (gp * (e + t)) ≤ i * i + 2 * i := by rw [Nat.mul_add]; omega
              have ht4 : (i + 1) * (i + 1) = i * i + 2 * i + 1 := by rw [Nat.add_mul, Nat.mul_add]; omega
              refine ih2 (i + 1) (e + t) f3 (by omega) (by omega) (m1.trans k2) (fun j hj => ?_) (fun hg1 => ?_) (by omega) (fun q => ?_) (by omega)
              · rw [m2 j (by omega)]; exact k3 j hj
              · rw [show min (i + 1) n = i + 1 by omega]
                exact m3 hg1 (by have := k4 hg1; rwa [show min i n = i by omega] at this)
              · have : n = i + 1 := by omega
                subst this
                omega
        refine inner 1025 gp 0 f1 (by omega) (Nat.le_refl _) h2 h3 (fun hg1 => ?_) (by omega) (fun q => by omega) (by omega)
        rw [zo_zs]
        intro i j q1 q2
        omega
  have h0 := outer 9 0 c (ye S r) (by omega) (by omega) (List.Perm.refl _) (fun _ _ => rfl) (fun q => by omega) (by omega)
  rw [yz_self, yq_self hJ] at h0
  exact h0
