/-! ROW: numberTags, turnRound -/
theorem dc_R_numberTags_0 : decode mb_R_numberTags 0 = .ok (.iconst 0, 1) := by decide +kernel
theorem dc_R_numberTags_1 : decode mb_R_numberTags 1 = .ok (.istore_n 1, 1) := by decide +kernel
theorem dc_R_numberTags_2 : decode mb_R_numberTags 2 = .ok (.iload_n 1, 1) := by decide +kernel
theorem dc_R_numberTags_3 : decode mb_R_numberTags 3 = .ok (.aload_n 0, 1) := by decide +kernel
theorem dc_R_numberTags_4 : decode mb_R_numberTags 4 = .ok (.getfield 19, 3) := by decide +kernel
theorem dc_R_numberTags_7 : decode mb_R_numberTags 7 = .ok (.if_icmp .ge 16, 3) := by decide +kernel
theorem dc_R_numberTags_10 : decode mb_R_numberTags 10 = .ok (.aload_n 0, 1) := by decide +kernel
theorem dc_R_numberTags_11 : decode mb_R_numberTags 11 = .ok (.getfield 15, 3) := by decide +kernel
theorem dc_R_numberTags_14 : decode mb_R_numberTags 14 = .ok (.iload_n 1, 1) := by decide +kernel
theorem dc_R_numberTags_15 : decode mb_R_numberTags 15 = .ok (.iload_n 1, 1) := by decide +kernel
theorem dc_R_numberTags_16 : decode mb_R_numberTags 16 = .ok (.iastore, 1) := by decide +kernel
theorem dc_R_numberTags_17 : decode mb_R_numberTags 17 = .ok (.iinc 1 1, 3) := by decide +kernel
theorem dc_R_numberTags_20 : decode mb_R_numberTags 20 = .ok (.goto (-18), 3) := by decide +kernel
theorem dc_R_numberTags_23 : decode mb_R_numberTags 23 = .ok (.return_, 1) := by decide +kernel
theorem dc_R_turnRound_0 : decode mb_R_turnRound 0 = .ok (.iload_n 1, 1) := by decide +kernel
theorem dc_R_turnRound_1 : decode mb_R_turnRound 1 = .ok (.istore_n 3, 1) := by decide +kernel
theorem dc_R_turnRound_2 : decode mb_R_turnRound 2 = .ok (.iload_n 2, 1) := by decide +kernel
theorem dc_R_turnRound_3 : decode mb_R_turnRound 3 = .ok (.iconst 1, 1) := by decide +kernel
theorem dc_R_turnRound_4 : decode mb_R_turnRound 4 = .ok (.isub, 1) := by decide +kernel
theorem dc_R_turnRound_5 : decode mb_R_turnRound 5 = .ok (.istore 4, 2) := by decide +kernel
theorem dc_R_turnRound_7 : decode mb_R_turnRound 7 = .ok (.iload_n 3, 1) := by decide +kernel
theorem dc_R_turnRound_8 : decode mb_R_turnRound 8 = .ok (.iload 4, 2) := by decide +kernel
theorem dc_R_turnRound_10 : decode mb_R_turnRound 10 = .ok (.if_icmp .ge 19, 3) := by decide +kernel
theorem dc_R_turnRound_13 : decode mb_R_turnRound 13 = .ok (.aload_n 0, 1) := by decide +kernel
theorem dc_R_turnRound_14 : decode mb_R_turnRound 14 = .ok (.iload_n 3, 1) := by decide +kernel
theorem dc_R_turnRound_15 : decode mb_R_turnRound 15 = .ok (.iload 4, 2) := by decide +kernel
theorem dc_R_turnRound_17 : decode mb_R_turnRound 17 = .ok (.invokevirtual 41, 3) := by decide +kernel
theorem dc_R_turnRound_20 : decode mb_R_turnRound 20 = .ok (.iinc 3 1, 3) := by decide +kernel
theorem dc_R_turnRound_23 : decode mb_R_turnRound 23 = .ok (.iinc 4 (-1), 3) := by decide +kernel
theorem dc_R_turnRound_26 : decode mb_R_turnRound 26 = .ok (.goto (-19), 3) := by decide +kernel
theorem dc_R_turnRound_29 : decode mb_R_turnRound 29 = .ok (.return_, 1) := by decide +kernel
theorem yz_tag (S : YS) (r j : Nat) (t : Int32) : sI S (14 + r) (upd (gI S (14 + r)) j t) = yz S r (va_up (ye S r) j ((ye S r j).1, t)) := by
  refine YS_ext (fun c => ?_) (fun c => ?_) (fun c k => rfl)
  · unfold yz ye
    simp only [gL_sI, gL_sL]
    split
    · rename_i h; subst h; funext i; unfold va_up; split
      · rename_i h2; rw [h2]
      · rfl
    · rfl
  · unfold yz ye
    simp only [gI_sI, gI_sL]
    split
    · funext i; unfold upd va_up; split <;> rfl
    · rfl
theorem yz_key (S : YS) (r j : Nat) (k : Int64) : sL S (8 + r) (vp_updL (gL S (8 + r)) j k) = yz S r (va_up (ye S r) j (k, (ye S r j).2)) := by
  refine YS_ext (fun c => ?_) (fun c => ?_) (fun c k => rfl)
  · unfold yz ye
    simp only [gL_sI, gL_sL]
    split
    · funext i; unfold vp_updL va_up; split <;> rfl
    · rfl
  · unfold yz ye
    simp only [gI_sI, gI_sL]
    split
    · rename_i h; subst h; funext i; unfold va_up; split
      · rename_i h2; rw [h2]
      · rfl
    · rfl
/-- the first j tags are places -/
def znm (f : Nat → Int64 × Int32) (j : Nat) : Nat → Int64 × Int32 := fun i => if i < j then ((f i).1, nI i) else f i
theorem znm_0 (f : Nat → Int64 × Int32) : znm f 0 = f := by
  funext i
  simp [znm]
theorem znm_s (f : Nat → Int64 × Int32) (j : Nat) : va_up (znm f j) j ((znm f j j).1, nI j) = znm f (j + 1) := by
  funext i
  unfold va_up znm
  by_cases h : i = j
  · subst h
    simp
  · by_cases h2 : i < j
    · simp [h, h2, show i < j + 1 by omega]
    · simp [h, h2, show ¬ i < j + 1 by omega]
set_option maxHeartbeats 4000000 in
set_option maxRecDepth 100000 in
theorem ct_R_numberTags (l : Launch) (g : YG) (S : YS) (r : Nat) (hr : r < 6) (n : Nat) (hn : n ≤ 1024) (hc : gF S (2 + r) 2 = nI n) : yC l mn_R_numberTags mb_R_numberTags 2 none 0 g [.ref (g.ad (2 + r))] S (fun v S' => v = none ∧ S' = yz S r (znm (ye S r) n)) := by
  refine yC_of (by decide) (Nat.le_of_ble_eq_true rfl) ?_
  intro o hl hg hB0 hE
  subst hl
  subst hg
  have hB : yB o mb_R_numberTags "OrderBench$Row" := hB0
  have hm := hE.1
  show yW o (S) 0 [(0, .ref (o.G.ad (2 + r)))] []
  refine y_iconst (v := nI 0) (pc' := 1) hB dc_R_numberTags_0 rfl rfl ?_
  refine y_istore_n (pc' := 2) (lv' := [(1, .int (nI (0))), (0, .ref (o.G.ad (2 + r)))]) hB hm dc_R_numberTags_1 rfl rfl (by decide) rfl ?_
  have loop : ∀ (d : Nat) (j : Nat), n - j < d → j ≤ n → yW o (yz S r (znm (ye S r) j)) 2 [(1, .int (nI (j))), (0, .ref (o.G.ad (2 + r)))] [] := by
    intro d
    induction d with
    | zero => intro j hd; omega
    | succ d ih =>
      intro j hd hj
      refine y_iload_n (pc' := 3) hB dc_R_numberTags_2 rfl rfl 0 rfl ?_
      refine y_aload_n (pc' := 4) hB dc_R_numberTags_3 rfl rfl 1 rfl ?_
      refine f_count (r := r) (pc' := 7) hB dc_R_numberTags_4 rfl (by omega) q_50 ?_
      refine y_topi (y := nI (n)) hc ?_
      refine n_icmp_ge (pc' := 10) (tg := 23) hB dc_R_numberTags_7 rfl rfl (by omega) (by omega) (fun h => ?_) (fun h => ?_)
      · have hj2 : j = n := by omega
        subst hj2
        exact y_vret hB hE dc_R_numberTags_23 ⟨rfl, rfl⟩
      · refine y_aload_n (pc' := 11) hB dc_R_numberTags_10 rfl rfl 1 rfl ?_
        refine f_tags (r := r) (pc' := 14) hB dc_R_numberTags_11 rfl (by omega) q_44 ?_
        refine y_iload_n (pc' := 15) hB dc_R_numberTags_14 rfl rfl 0 rfl ?_
        refine y_iload_n (pc' := 16) hB dc_R_numberTags_15 rfl rfl 0 rfl ?_
        refine y_iast (c := 14 + r) (n := 1024) (j := j) (pc' := 17) hB dc_R_numberTags_16 rfl (by unfold yN; omega) (yk_row (by omega)).2.2 (by omega) (by decide) ?_
        refine n_inc (q := 0) (z := 1) (pc' := 20) (lv' := [(1, .int (nI (j + 1))), (0, .ref (o.G.ad (2 + r)))]) hB hm dc_R_numberTags_17 rfl rfl (by decide) rfl ?_
        refine y_goto (tg := 2) hB dc_R_numberTags_20 rfl ?_
        refine Eq.mp (congrArg (fun T => yW o T 2 _ _) ?_) (ih (j + 1) (by omega) (by omega))
        rw [yz_tag, yz_yz, ye_yz, znm_s]
  have h0 := loop (n + 1) 0 (by omega) (by omega)
  rw [znm_0, yz_self] at h0
  exact h0
/-- t entries from both ends of a part have changed places -/
def zrv {α : Type} (f : Nat → α) (a b t : Nat) : Nat → α := fun i => if (a ≤ i ∧ i < a + t) ∨ (b ≤ i + t ∧ i < b) then f (a + b - 1 - i) else f i
theorem zrv_0 {α : Type} (f : Nat → α) (a b : Nat) : zrv f a b 0 = f := by
  funext i
  unfold zrv
  rw [if_neg (by omega)]
theorem zrv_s {α : Type} (f : Nat → α) {a b t : Nat} (h : a + t + t + 1 < b) : zw (zrv f a b t) (a + t) (b - 1 - t) = zrv f a b (t + 1) := by
  funext i
  unfold zw va_up
  by_cases h1 : i = b - 1 - t
  · rw [if_pos h1]
    unfold zrv
    rw [if_neg (by omega), if_pos (by omega)]
    congr 1
    omega
  · rw [if_neg h1]
    by_cases h2 : i = a + t
    · rw [if_pos h2]
      unfold zrv
      rw [if_neg (by omega), if_pos (by omega)]
      congr 1
      omega
    · rw [if_neg h2]
      unfold zrv
      by_cases h3 : (a ≤ i ∧ i < a + t) ∨ (b ≤ i + t ∧ i < b)
      · rw [if_pos h3, if_pos (by omega)]
      · rw [if_neg h3, if_neg (by omega)]
/-- a part is turned round -/
def zrr {α : Type} (f : Nat → α) (a b : Nat) : Nat → α := fun i => if a ≤ i ∧ i < b then f (a + b - 1 - i) else f i
theorem zrv_e {α : Type} (f : Nat → α) {a b t : Nat} (h : b ≤ a + t + t + 1) (h2 : a + t + t ≤ b) : zrv f a b t = zrr f a b := by
  funext i
  unfold zrv zrr
  by_cases h3 : a ≤ i ∧ i < b
  · rw [if_pos h3]
    by_cases h4 : (a ≤ i ∧ i < a + t) ∨ (b ≤ i + t ∧ i < b)
    · rw [if_pos h4]
    · rw [if_neg h4]
      congr 1
      omega
  · rw [if_neg h3, if_neg (by omega)]
set_option maxHeartbeats 4000000 in
set_option maxRecDepth 100000 in
theorem ct_R_turnRound (l : Launch) (g : YG) (S : YS) (r : Nat) (hr : r < 6) (a b : Nat) (hab : a < b) (hb : b ≤ 1024) : yC l mn_R_turnRound mb_R_turnRound 5 none 2 g [.ref (g.ad (2 + r)), .int (nI (a)), .int (nI (b))] S (fun v S' => v = none ∧ S' = yz S r (zrr (ye S r) a b)) := by
  refine yC_of (by decide) (Nat.le_of_ble_eq_true rfl) ?_
  intro o hl hg hB0 hE
  subst hl
  subst hg
  have hB : yB o mb_R_turnRound "OrderBench$Row" := hB0
  have hm := hE.1
  show yW o (S) 0 [(0, .ref (o.G.ad (2 + r))), (1, .int (nI (a))), (2, .int (nI (b)))] []
  refine y_iload_n (pc' := 1) hB dc_R_turnRound_0 rfl rfl 1 rfl ?_
  refine y_istore_n (pc' := 2) (lv' := [(3, .int (nI (a))), (0, .ref (o.G.ad (2 + r))), (1, .int (nI (a))), (2, .int (nI (b)))]) hB hm dc_R_turnRound_1 rfl rfl (by decide) rfl ?_
  refine y_iload_n (pc' := 3) hB dc_R_turnRound_2 rfl rfl 3 rfl ?_
  refine y_iconst (v := nI 1) (pc' := 4) hB dc_R_turnRound_3 rfl rfl ?_
  refine n_isub (x := b) (y := 1) (pc' := 5) hB dc_R_turnRound_4 rfl (by omega) ?_
  refine y_istore (pc' := 7) (lv' := [(4, .int (nI (b - 1))), (3, .int (nI (a))), (0, .ref (o.G.ad (2 + r))), (1, .int (nI (a))), (2, .int (nI (b)))]) hB hm dc_R_turnRound_5 rfl (by decide) rfl ?_
  have loop : ∀ (d : Nat) (t : Nat), b - t < d → a + t + t ≤ b → yW o (yz S r (zrv (ye S r) a b t)) 7 [(4, .int (nI (b - 1 - t))), (3, .int (nI (a + t))), (0, .ref (o.G.ad (2 + r))), (1, .int (nI (a))), (2, .int (nI (b)))] [] := by
    intro d
    induction d with
    | zero => intro t hd; omega
    | succ d ih =>
      intro t hd ht
      refine y_iload_n (pc' := 8) hB dc_R_turnRound_7 rfl rfl 1 rfl ?_
      refine y_iload (pc' := 10) hB dc_R_turnRound_8 rfl 0 rfl ?_
      refine n_icmp_ge (pc' := 13) (tg := 29) hB dc_R_turnRound_10 rfl rfl (by omega) (by omega) (fun h => ?_) (fun h => ?_)
      · refine y_vret hB hE dc_R_turnRound_29 ⟨rfl, ?_⟩
        rw [zrv_e (ye S r) (by omega) (by omega)]
      · refine y_aload_n (pc' := 14) hB dc_R_turnRound_13 rfl rfl 2 rfl ?_
        refine y_iload_n (pc' := 15) hB dc_R_turnRound_14 rfl rfl 1 rfl ?_
        refine y_iload (pc' := 17) hB dc_R_turnRound_15 rfl 0 rfl ?_
        refine y_callV (c := 2 + r) (ci := 1) (As := [.int (nI (a + t)), .int (nI (b - 1 - t))]) (rest := []) (pc' := 20) hB hE (ct_R_change o.l o.G _ r hr (a + t) (b - 1 - t) (by omega) (by omega)) mm_R_change q_479 q_288 q_289 (by unfold yN; omega) (yk_row (by omega)).1 rfl dc_R_turnRound_17 rfl (by decide) rfl rfl (by decide) (fun v S' hpost => ?_)
        obtain ⟨rfl, rfl⟩ := hpost
        show yW o (yz (yz S r (zrv (ye S r) a b t)) r (zw (ye (yz S r (zrv (ye S r) a b t)) r) (a + t) (b - 1 - t))) 20 [(4, .int (nI (b - 1 - t))), (3, .int (nI (a + t))), (0, .ref (o.G.ad (2 + r))), (1, .int (nI (a))), (2, .int (nI (b)))] []
        refine n_inc (q := 1) (z := 1) (pc' := 23) (lv' := [(3, .int (nI (a + t + 1))), (4, .int (nI (b - 1 - t))), (0, .ref (o.G.ad (2 + r))), (1, .int (nI (a))), (2, .int (nI (b)))]) hB hm dc_R_turnRound_20 rfl rfl (by decide) rfl ?_
        refine n_dec (q := 1) (pc' := 26) (lv' := [(4, .int (nI (b - 1 - t - 1))), (3, .int (nI (a + t + 1))), (0, .ref (o.G.ad (2 + r))), (1, .int (nI (a))), (2, .int (nI (b)))]) hB hm dc_R_turnRound_23 rfl (by omega) rfl (by decide) rfl ?_
        refine y_goto (tg := 7) hB dc_R_turnRound_26 rfl ?_
        have h1 := ih (t + 1) (by omega) (by omega)
        rw [← zrv_s (ye S r) (by omega)] at h1
        rw [yz_yz, ye_yz, show a + t + 1 = a + (t + 1) by omega, show b - 1 - t - 1 = b - 1 - (t + 1) by omega]
        exact h1
  have h0 := loop (b + 1) 0 (by omega) (by omega)
  rw [zrv_0, yz_self] at h0
  exact h0
