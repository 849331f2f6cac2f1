/-! BENCH: climb -/
theorem dc_B_climb_0 : decode mb_B_climb 0 = .ok (.aload_n 0, 1) := by decide +kernel
theorem dc_B_climb_1 : decode mb_B_climb 1 = .ok (.iload_n 1, 1) := by decide +kernel
theorem dc_B_climb_2 : decode mb_B_climb 2 = .ok (.invokevirtual 49, 3) := by decide +kernel
theorem dc_B_climb_5 : decode mb_B_climb 5 = .ok (.astore_n 3, 1) := by decide +kernel
theorem dc_B_climb_6 : decode mb_B_climb 6 = .ok (.aload_n 0, 1) := by decide +kernel
theorem dc_B_climb_7 : decode mb_B_climb 7 = .ok (.iload_n 2, 1) := by decide +kernel
theorem dc_B_climb_8 : decode mb_B_climb 8 = .ok (.invokevirtual 159, 3) := by decide +kernel
theorem dc_B_climb_11 : decode mb_B_climb 11 = .ok (.iconst 0, 1) := by decide +kernel
theorem dc_B_climb_12 : decode mb_B_climb 12 = .ok (.istore 4, 2) := by decide +kernel
theorem dc_B_climb_14 : decode mb_B_climb 14 = .ok (.iconst 0, 1) := by decide +kernel
theorem dc_B_climb_15 : decode mb_B_climb 15 = .ok (.istore 5, 2) := by decide +kernel
theorem dc_B_climb_17 : decode mb_B_climb 17 = .ok (.iload 5, 2) := by decide +kernel
theorem dc_B_climb_19 : decode mb_B_climb 19 = .ok (.aload_n 3, 1) := by decide +kernel
theorem dc_B_climb_20 : decode mb_B_climb 20 = .ok (.getfield 53, 3) := by decide +kernel
theorem dc_B_climb_23 : decode mb_B_climb 23 = .ok (.if_icmp .ge 63, 3) := by decide +kernel
theorem dc_B_climb_26 : decode mb_B_climb 26 = .ok (.aload_n 0, 1) := by decide +kernel
theorem dc_B_climb_27 : decode mb_B_climb 27 = .ok (.getfield 26, 3) := by decide +kernel
theorem dc_B_climb_30 : decode mb_B_climb 30 = .ok (.aload_n 0, 1) := by decide +kernel
theorem dc_B_climb_31 : decode mb_B_climb 31 = .ok (.getfield 16, 3) := by decide +kernel
theorem dc_B_climb_34 : decode mb_B_climb 34 = .ok (.iconst 0, 1) := by decide +kernel
theorem dc_B_climb_35 : decode mb_B_climb 35 = .ok (.iload 4, 2) := by decide +kernel
theorem dc_B_climb_37 : decode mb_B_climb 37 = .ok (.aload_n 3, 1) := by decide +kernel
theorem dc_B_climb_38 : decode mb_B_climb 38 = .ok (.getfield 78, 3) := by decide +kernel
theorem dc_B_climb_41 : decode mb_B_climb 41 = .ok (.iload 5, 2) := by decide +kernel
theorem dc_B_climb_43 : decode mb_B_climb 43 = .ok (.laload, 1) := by decide +kernel
theorem dc_B_climb_44 : decode mb_B_climb 44 = .ok (.aload_n 3, 1) := by decide +kernel
theorem dc_B_climb_45 : decode mb_B_climb 45 = .ok (.getfield 103, 3) := by decide +kernel
theorem dc_B_climb_48 : decode mb_B_climb 48 = .ok (.iload 5, 2) := by decide +kernel
theorem dc_B_climb_50 : decode mb_B_climb 50 = .ok (.iaload, 1) := by decide +kernel
theorem dc_B_climb_51 : decode mb_B_climb 51 = .ok (.iconst 0, 1) := by decide +kernel
theorem dc_B_climb_52 : decode mb_B_climb 52 = .ok (.invokevirtual 174, 3) := by decide +kernel
theorem dc_B_climb_55 : decode mb_B_climb 55 = .ok (.istore 6, 2) := by decide +kernel
theorem dc_B_climb_57 : decode mb_B_climb 57 = .ok (.aload_n 0, 1) := by decide +kernel
theorem dc_B_climb_58 : decode mb_B_climb 58 = .ok (.getfield 16, 3) := by decide +kernel
theorem dc_B_climb_61 : decode mb_B_climb 61 = .ok (.iload 6, 2) := by decide +kernel
theorem dc_B_climb_63 : decode mb_B_climb 63 = .ok (.aload_n 3, 1) := by decide +kernel
theorem dc_B_climb_64 : decode mb_B_climb 64 = .ok (.iload 5, 2) := by decide +kernel
theorem dc_B_climb_66 : decode mb_B_climb 66 = .ok (.invokevirtual 178, 3) := by decide +kernel
theorem dc_B_climb_69 : decode mb_B_climb 69 = .ok (.iload 4, 2) := by decide +kernel
theorem dc_B_climb_71 : decode mb_B_climb 71 = .ok (.iload 6, 2) := by decide +kernel
theorem dc_B_climb_73 : decode mb_B_climb 73 = .ok (.iconst 1, 1) := by decide +kernel
theorem dc_B_climb_74 : decode mb_B_climb 74 = .ok (.iadd, 1) := by decide +kernel
theorem dc_B_climb_75 : decode mb_B_climb 75 = .ok (.invokestatic 182, 3) := by decide +kernel
theorem dc_B_climb_78 : decode mb_B_climb 78 = .ok (.istore 4, 2) := by decide +kernel
theorem dc_B_climb_80 : decode mb_B_climb 80 = .ok (.iinc 5 1, 3) := by decide +kernel
theorem dc_B_climb_83 : decode mb_B_climb 83 = .ok (.goto (-66), 3) := by decide +kernel
theorem dc_B_climb_86 : decode mb_B_climb 86 = .ok (.iload 4, 2) := by decide +kernel
theorem dc_B_climb_88 : decode mb_B_climb 88 = .ok (.ireturn, 1) := by decide +kernel
/-- the longest that ends before place t at something that comes before the entry at i -/
def zmx {α : Type} (r : α → Int) (f : Nat → α) (g : Nat → Nat) (i : Nat) : Nat → Nat
  | 0 => 0
  | t + 1 => if r (f t) < r (f i) then max (zmx r f g i t) (g t) else zmx r f g i t
def zlf {α : Type} (r : α → Int) (f : Nat → α) : Nat → Nat → Nat
  | 0, _ => 0
  | n + 1, j => if j = n then zmx r f (zlf r f n) n n + 1 else zlf r f n j
/-- the longest climb that ends at place j -/
def zlg {α : Type} (r : α → Int) (f : Nat → α) (j : Nat) : Nat := zlf r f (j + 1) j
def zmost (g : Nat → Nat) : Nat → Nat
  | 0 => 0
  | n + 1 => max (zmost g n) (g n)
theorem zlf_st {α : Type} (r : α → Int) (f : Nat → α) (j : Nat) : ∀ n, j < n → zlf r f n j = zlg r f j := by
  intro n
  induction n with
  | zero => intro h; omega
  | succ n ih =>
    intro h
    by_cases e : j = n
    · subst e; rfl
    · show (if j = n then _ else zlf r f n j) = _
      rw [if_neg e]; exact ih (by omega)
theorem zmx_congr {α : Type} {r : α → Int} {f : Nat → α} {g g' : Nat → Nat} {i : Nat} : ∀ t, (∀ j, j < t → g j = g' j) → zmx r f g i t = zmx r f g' i t := by
  intro t
  induction t with
  | zero => intro _; rfl
  | succ t ih =>
    intro h
    show (if _ then max (zmx r f g i t) (g t) else zmx r f g i t) = (if _ then max (zmx r f g' i t) (g' t) else zmx r f g' i t)
    rw [ih (fun j hj => h j (by omega)), h t (by omega)]
theorem zlg_eq {α : Type} (r : α → Int) (f : Nat → α) (i : Nat) : zlg r f i = zmx r f (zlg r f) i i + 1 := by
  show (if i = i then zmx r f (zlf r f i) i i + 1 else _) = _
  rw [if_pos rfl, zmx_congr i (fun j hj => zlf_st r f j i hj)]
theorem zmx_le {α : Type} {r : α → Int} {f : Nat → α} {g : Nat → Nat} {i : Nat} : ∀ t j, j < t → r (f j) < r (f i) → g j ≤ zmx r f g i t := by
  intro t
  induction t with
  | zero => intro j h; omega
  | succ t ih =>
    intro j h hc
    show g j ≤ (if r (f t) < r (f i) then max (zmx r f g i t) (g t) else zmx r f g i t)
    by_cases e : j = t
    · subst e; rw [if_pos hc]; omega
    · have := ih j (by omega) hc
      split <;> omega
theorem zmx_ge {α : Type} {r : α → Int} {f : Nat → α} {g : Nat → Nat} {i p : Nat} : ∀ t, (∀ j, j < t → r (f j) < r (f i) → g j ≤ p) → zmx r f g i t ≤ p := by
  intro t
  induction t with
  | zero => intro _; exact Nat.zero_le _
  | succ t ih =>
    intro h
    show (if r (f t) < r (f i) then max (zmx r f g i t) (g t) else zmx r f g i t) ≤ p
    have h1 := ih (fun j hj => h j (by omega))
    by_cases e : r (f t) < r (f i)
    · rw [if_pos e]; have := h t (by omega) e; omega
    · rw [if_neg e]; exact h1
/-- the desk while the climbs are sought -/
def zCl {α : Type} (r : α → Int) (f d : Nat → α) (i L : Nat) : Prop :=
  L = zmost (zlg r f) i ∧ (∀ j, j < i → 1 ≤ zlg r f j ∧ zlg r f j ≤ L ∧ r (d (zlg r f j - 1)) ≤ r (f j)) ∧ (∀ p, p < L → ∃ j, j < i ∧ zlg r f j = p + 1 ∧ d p = f j) ∧ (∀ p q, p < q → q < L → r (d p) < r (d q))
theorem zCl_0 {α : Type} {r : α → Int} {f d : Nat → α} : zCl r f d 0 0 := ⟨rfl, fun j h => by omega, fun p h => by omega, fun p q _ h => by omega⟩
theorem zCl_s {α : Type} {r : α → Int} {f d : Nat → α} {i L p : Nat} (h : zCl r f d i L) (hp : p ≤ L) (h1 : ∀ j, j < p → r (d j) < r (f i)) (h2 : ∀ j, p ≤ j → j < L → ¬ r (d j) < r (f i)) : zCl r f (va_up d p (f i)) (i + 1) (max L (p + 1)) := by
  obtain ⟨a1, a2, a3, a4⟩ := h
  have hg : zlg r f i = p + 1 := by
    rw [zlg_eq]
    congr 1
    apply Nat.le_antisymm
    · refine zmx_ge i (fun j hj hc => ?_)
      obtain ⟨b1, b2, b3⟩ := a2 j hj
      rcases Nat.lt_or_ge p (zlg r f j) with q | q
      · exact absurd (Int.lt_of_le_of_lt b3 hc) (h2 _ (by omega) (by omega))
      · exact q
    · rcases Nat.eq_zero_or_pos p with e | e
      · omega
      · obtain ⟨j, b1, b2, b3⟩ := a3 (p - 1) (by omega)
        have b4 := h1 (p - 1) (by omega)
        rw [b3] at b4
        have b5 := zmx_le (g := zlg r f) i j b1 b4
        omega
  refine ⟨?_, fun j hj => ?_, fun q hq => ?_, fun q s hqs hs => ?_⟩
  · show max L (p + 1) = max (zmost (zlg r f) i) (zlg r f i)
    rw [hg, ← a1]
  · by_cases e : j = i
    · subst e
      rw [hg, Nat.add_sub_cancel, va_up_self]
      exact ⟨by omega, by omega, Int.le_refl _⟩
    · obtain ⟨b1, b2, b3⟩ := a2 j (by omega)
      refine ⟨b1, by omega, ?_⟩
      by_cases e2 : zlg r f j - 1 = p
      · rw [e2, va_up_self]
        have := h2 p (Nat.le_refl _) (by omega)
        rw [e2] at b3
        omega
      · rw [va_up_ne _ _ e2]; exact b3
  · by_cases e : q = p
    · subst e; exact ⟨i, by omega, hg, by rw [va_up_self]⟩
    · obtain ⟨j, b1, b2, b3⟩ := a3 q (by omega)
      exact ⟨j, by omega, b2, by rw [va_up_ne _ _ e]; exact b3⟩
  · by_cases e : q = p
    · subst e
      rw [va_up_self, va_up_ne _ _ (by omega)]
      have b1 := h2 q (Nat.le_refl _) (by omega)
      have b2 := a4 q s hqs (by omega)
      omega
    · rw [va_up_ne _ _ e]
      by_cases e2 : s = p
      · subst e2; rw [va_up_self]; exact h1 q hqs
      · rw [va_up_ne _ _ e2]; exact a4 q s hqs (by omega)
set_option maxHeartbeats 4000000 in
set_option maxRecDepth 100000 in
theorem ct_B_climb (l : Launch) (g : YG) (S : YS) (k n : Nat) (hk : k < 4) (hn : n ≤ 1024) (hc : gF S (2 + k) 2 = nI n) (od : Nat) (ho : od < 8) : yC l mn_B_climb mb_B_climb 7 (some .int) 6 g [.ref (g.ad (0)), .int (nI (k)), .int (nI (od))] S (fun v S' => v = some (.int (nI (zmost (zlg (zq od false) (ye S k)) n))) ∧ yU S S') := by
  refine yC_of (by decide) (Nat.le_of_ble_eq_true rfl) ?_
  intro o hl hg hB0 hE
  subst hl
  subst hg
  have hB : yB o mb_B_climb "OrderBench" := hB0
  have hm := hE.1
  show yW o (S) 0 [(0, .ref (o.G.ad (0))), (1, .int (nI (k))), (2, .int (nI (od)))] []
  have hk6 : k < 6 := by omega
  refine y_aload_n (pc' := 1) hB dc_B_climb_0 rfl rfl 0 rfl ?_
  refine y_iload_n (pc' := 2) hB dc_B_climb_1 rfl rfl 1 rfl ?_
  refine y_callV (c := 0) (ci := 0) (As := [.int (nI (k))]) (rest := []) (pc' := 5) hB hE (ct_B_rowAt o.l o.G S k hk) mm_B_rowAt q_137 q_139 qs_0 (by decide) rfl rfl dc_B_climb_2 rfl (by decide) rfl rfl (Nat.le_of_ble_eq_true rfl) (fun v S' hpost => ?_)
  obtain ⟨rfl, hSS⟩ := hpost
  rw [hSS]
  clear hSS S'
  show yW o (S) 5 [(0, .ref (o.G.ad (0))), (1, .int (nI (k))), (2, .int (nI (od)))] [.ref (o.G.ad (2 + k))]
  refine y_astore_n (pc' := 6) (lv' := [(3, .ref (o.G.ad (2 + k))), (0, .ref (o.G.ad (0))), (1, .int (nI (k))), (2, .int (nI (od)))]) hB hm dc_B_climb_5 rfl rfl (by decide) rfl ?_
  refine y_aload_n (pc' := 7) hB dc_B_climb_6 rfl rfl 1 rfl ?_
  refine y_iload_n (pc' := 8) hB dc_B_climb_7 rfl rfl 3 rfl ?_
  refine y_callV (c := 0) (ci := 0) (As := [.int (nI (od))]) (rest := []) (pc' := 11) hB hE (ct_B_judgeBy o.l o.G S od ho) mm_B_judgeBy q_540 q_542 qs_8 (by decide) rfl rfl dc_B_climb_8 rfl (by decide) rfl rfl (Nat.le_of_ble_eq_true rfl) (fun v S' hpost => ?_)
  obtain ⟨rfl, hSS⟩ := hpost
  rw [hSS]
  clear hSS S'
  show yW o (yj S od false) 11 [(3, .ref (o.G.ad (2 + k))), (0, .ref (o.G.ad (0))), (1, .int (nI (k))), (2, .int (nI (od)))] []
  have hJ := yj_J S false ho
  refine y_iconst (v := nI 0) (pc' := 12) hB dc_B_climb_11 rfl rfl ?_
  refine y_istore (pc' := 14) (lv' := [(4, .int (nI (0))), (3, .ref (o.G.ad (2 + k))), (0, .ref (o.G.ad (0))), (1, .int (nI (k))), (2, .int (nI (od)))]) hB hm dc_B_climb_12 rfl (by decide) rfl ?_
  refine y_iconst (v := nI 0) (pc' := 15) hB dc_B_climb_14 rfl rfl ?_
  refine y_istore (pc' := 17) (lv' := [(5, .int (nI (0))), (4, .int (nI (0))), (3, .ref (o.G.ad (2 + k))), (0, .ref (o.G.ad (0))), (1, .int (nI (k))), (2, .int (nI (od)))]) hB hm dc_B_climb_15 rfl (by decide) rfl ?_
  have loop : ∀ (d : Nat) (i L c1 : Nat) (d1 : Nat → Int64 × Int32), n - i < d → i ≤ n → L ≤ i → zCl (zq od false) (ye S k) d1 i L → yW o (yq (yz (yj S od false) 4 d1) c1) 17 [(5, .int (nI (i))), (4, .int (nI (L))), (3, .ref (o.G.ad (2 + k))), (0, .ref (o.G.ad (0))), (1, .int (nI (k))), (2, .int (nI (od)))] [] := by
    intro d
    induction d with
    | zero => intro i L c1 d1 hd; omega
    | succ d ih =>
      intro i L c1 d1 hd h1 h2 h3
      have hr4 : ye (yz (yj S od false) 4 d1) 4 = d1 := ye_yz _ 4 d1
      have hrk : ye (yz (yj S od false) 4 d1) k = (ye S k) := ye_yz_ne (yj S od false) d1 (by omega)
      refine y_iload (pc' := 19) hB dc_B_climb_17 rfl 0 rfl ?_
      refine y_aload_n (pc' := 20) hB dc_B_climb_19 rfl rfl 2 rfl ?_
      refine f_count (r := k) (pc' := 23) hB dc_B_climb_20 rfl (by omega) q_53 ?_
      refine y_topi (y := nI (n)) ((gF_yq (yz (yj S od false) 4 d1) c1 k hk6).trans ((yj_n S od false hk6).trans hc)) ?_
      refine n_icmp_ge (pc' := 26) (tg := 86) hB dc_B_climb_23 rfl rfl (by omega) (by omega) (fun b1 => ?_) (fun b1 => ?_)
      · have e : i = n := by omega
        subst e
        refine y_iload (pc' := 88) hB dc_B_climb_86 rfl 1 rfl ?_
        exact y_iret hB hE dc_B_climb_88 ⟨by rw [← h3.1], ((yU_yj S od false).tr (yU_yz _ (Or.inl rfl) d1)).tr (yU_yq _ _)⟩
      · obtain ⟨x, hx⟩ : ∃ z, z = (ye S k) i := ⟨_, rfl⟩
        refine y_aload_n (pc' := 27) hB dc_B_climb_26 rfl rfl 3 rfl ?_
        refine f_B_judge (pc' := 30) hB dc_B_climb_27 rfl q_105 ?_
        refine y_aload_n (pc' := 31) hB dc_B_climb_30 rfl rfl 3 rfl ?_
        refine f_B_desk (pc' := 34) hB dc_B_climb_31 rfl q_103 ?_
        refine y_iconst (v := nI 0) (pc' := 35) hB dc_B_climb_34 rfl rfl ?_
        refine y_iload (pc' := 37) hB dc_B_climb_35 rfl 1 rfl ?_
        refine y_aload_n (pc' := 38) hB dc_B_climb_37 rfl rfl 2 rfl ?_
        refine f_keys (r := k) (pc' := 41) hB dc_B_climb_38 rfl (by omega) q_40 ?_
        refine y_iload (pc' := 43) hB dc_B_climb_41 rfl 0 rfl ?_
        refine y_lald (c := 8 + k) (n := 1024) (j := i) (pc' := 44) hB dc_B_climb_43 rfl (by unfold yN; omega) (yk_row (by omega)).2.1 (by omega) (by decide) ?_
        refine y_topl (y := x.1) (by show (ye (yz (yj S od false) 4 d1) k i).1 = _; rw [hrk, hx]) ?_
        refine y_aload_n (pc' := 45) hB dc_B_climb_44 rfl rfl 2 rfl ?_
        refine f_tags (r := k) (pc' := 48) hB dc_B_climb_45 rfl (by omega) q_49 ?_
        refine y_iload (pc' := 50) hB dc_B_climb_48 rfl 0 rfl ?_
        refine y_iald (c := 14 + k) (n := 1024) (j := i) (pc' := 51) hB dc_B_climb_50 rfl (by unfold yN; omega) (yk_row (by omega)).2.2 (by omega) (by decide) ?_
        refine y_topi (y := x.2) (by show (ye (yz (yj S od false) 4 d1) k i).2 = _; rw [hrk, hx]) ?_
        refine y_iconst (v := nI 0) (pc' := 52) hB dc_B_climb_51 rfl rfl ?_
        refine y_callV (c := 20) (ci := 2) (As := [.ref (o.G.ad (2 + 4)), .int (nI (0)), .int (nI (L)), .long (x.1), .int (x.2), .int (yb false)]) (rest := []) (pc' := 55) hB hE (ct_J_placeIn o.l o.G (yq (yz (yj S od false) 4 d1) c1) od false c1 (yJ_yq (yJ_yz hJ 4 d1) c1) 4 (by decide) 0 L (by omega) (by omega) (by rw [ye_yq, hr4]; exact fun p q _ e1 e2 => Int.le_of_lt (h3.2.2.2 p q e1 e2)) x.1 x.2 false 11 (by omega)) mm_J_placeIn q_579 q_372 q_373 (by decide) rfl rfl dc_B_climb_52 rfl (by decide) rfl rfl (Nat.le_of_ble_eq_true rfl) (fun v S' hpost => ?_)
        obtain ⟨p, c2, rfl, rfl, m1, m2, m3, m4, m5⟩ := hpost
        rw [ye_yq, hr4] at m3 m4
        rw [yq_yq]
        show yW o (yq (yz (yj S od false) 4 d1) c2) 55 [(5, .int (nI (i))), (4, .int (nI (L))), (3, .ref (o.G.ad (2 + k))), (0, .ref (o.G.ad (0))), (1, .int (nI (k))), (2, .int (nI (od)))] [.int (nI (p))]
        refine y_istore (pc' := 57) (lv' := [(6, .int (nI (p))), (5, .int (nI (i))), (4, .int (nI (L))), (3, .ref (o.G.ad (2 + k))), (0, .ref (o.G.ad (0))), (1, .int (nI (k))), (2, .int (nI (od)))]) hB hm dc_B_climb_55 rfl (by decide) rfl ?_
        refine y_aload_n (pc' := 58) hB dc_B_climb_57 rfl rfl 4 rfl ?_
        refine f_B_desk (pc' := 61) hB dc_B_climb_58 rfl q_103 ?_
        refine y_iload (pc' := 63) hB dc_B_climb_61 rfl 0 rfl ?_
        refine y_aload_n (pc' := 64) hB dc_B_climb_63 rfl rfl 3 rfl ?_
        refine y_iload (pc' := 66) hB dc_B_climb_64 rfl 1 rfl ?_
        refine y_callV (c := 2 + 4) (ci := 1) (As := [.int (nI (p)), .ref (o.G.ad (2 + k)), .int (nI (i))]) (rest := []) (pc' := 69) hB hE (ct_R_take o.l o.G (yq (yz (yj S od false) 4 d1) c2) 4 (by decide) k hk6 p i (by omega) (by omega)) mm_R_take q_580 q_292 q_293 (by unfold yN; omega) (yk_row (by omega)).1 rfl dc_B_climb_66 rfl (by decide) rfl rfl (Nat.le_of_ble_eq_true rfl) (fun v S' hpost => ?_)
        obtain ⟨rfl, hSS⟩ := hpost
        rw [hSS]
        clear hSS S'
        show yW o (yz (yq (yz (yj S od false) 4 d1) c2) 4 (va_up (ye (yq (yz (yj S od false) 4 d1) c2) 4) p (ye (yq (yz (yj S od false) 4 d1) c2) k i))) 69 [(6, .int (nI (p))), (5, .int (nI (i))), (4, .int (nI (L))), (3, .ref (o.G.ad (2 + k))), (0, .ref (o.G.ad (0))), (1, .int (nI (k))), (2, .int (nI (od)))] []
        have hS : yz (yq (yz (yj S od false) 4 d1) c2) 4 (va_up (ye (yq (yz (yj S od false) 4 d1) c2) 4) p (ye (yq (yz (yj S od false) 4 d1) c2) k i)) = yq (yz (yj S od false) 4 (va_up d1 p ((ye S k) i))) c2 := by
          rw [ye_yq, hr4, ye_yq, hrk]
          show yq (yz (yz (yj S od false) 4 _) 4 _) _ = _
          rw [yz_yz]
        rw [hS]
        refine y_iload (pc' := 71) hB dc_B_climb_69 rfl 2 rfl ?_
        refine y_iload (pc' := 73) hB dc_B_climb_71 rfl 0 rfl ?_
        refine y_iconst (v := nI 1) (pc' := 74) hB dc_B_climb_73 rfl rfl ?_
        refine n_iadd (x := p) (y := 1) (pc' := 75) hB dc_B_climb_74 rfl ?_
        refine y_mmax (x := L) (y := p + 1) (pc' := 78) hB hE dc_B_climb_75 rfl q_581 (by omega) (by omega) (Nat.le_of_ble_eq_true rfl) ?_
        refine y_istore (pc' := 80) (lv' := [(4, .int (nI (max L (p + 1)))), (6, .int (nI (p))), (5, .int (nI (i))), (3, .ref (o.G.ad (2 + k))), (0, .ref (o.G.ad (0))), (1, .int (nI (k))), (2, .int (nI (od)))]) hB hm dc_B_climb_78 rfl (by decide) rfl ?_
        refine n_inc (q := 2) (z := 1) (pc' := 83) (lv' := [(5, .int (nI (i + 1))), (4, .int (nI (max L (p + 1)))), (6, .int (nI (p))), (3, .ref (o.G.ad (2 + k))), (0, .ref (o.G.ad (0))), (1, .int (nI (k))), (2, .int (nI (od)))]) hB hm dc_B_climb_80 rfl rfl (by decide) rfl ?_
        refine y_goto (tg := 17) hB dc_B_climb_83 rfl ?_
        refine y_sub [0, 1, 3, 4, 5, 6] rfl ?_
        refine ih (i + 1) _ c2 _ (by omega) b1 (by omega) (zCl_s h3 m2 (fun j hj => ?_) (fun j e1 e2 => ?_))
        · have e := zcd_f.mp (m3 j (Nat.zero_le _) hj); rw [← hx]; exact e
        · have e := m4 j e1 e2; rw [zcd_f] at e; rw [← hx]; exact e
  have h0 := loop (n + 1) 0 0 0 (ye (yj S od false) 4) (by omega) (by omega) (by omega) zCl_0
  rw [yz_self, yq_self hJ] at h0
  exact h0
