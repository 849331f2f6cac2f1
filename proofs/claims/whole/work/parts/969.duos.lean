/-! BOTH SIDES: calls that ask -/
set_option maxHeartbeats 4000000 in
set_option maxRecDepth 100000 in
theorem duo_size (l : Launch) (hs : l.stackTraces = false) (g : YG) (S : YS) (hI : yInv S) (a : Int32) : yDuo l g S mn_L_size mb_L_size 4 [(0, 9, 12, 13)] [.ref (g.ad (0)), .int (a), .ref (g.ad (31))] mn_M_size mb_M_size 2 (some .int) [.ref (g.ad (24)), .int (a)] dI := by
  by_cases ha : zgr a
  rotate_left
  · exact ⟨1, yU S, by decide, hp_size_1 l g S a 9 (by decide) _ (cx_B_size_row l hs g S a ha), fun S1 h1 => ⟨1, by decide, (ct_M_sizeX l g S1 a ha).mono (fun v S2 q => by obtain ⟨rfl, rfl⟩ := q; exact ⟨⟨_, rfl, fun e => absurd e (by decide)⟩, yx_c S1 1, (hI.U h1.two).O (mO_yx S1 1)⟩)⟩⟩
  obtain ⟨k, hk, rfl⟩ := zgr_nI ha
  obtain ⟨n, hn, hc, hc2, he⟩ := hI.1 k hk
  refine ⟨0, _, by decide, hp_size_0 l g S (nI k) 2 (by decide) (fun b0 S' => b0 = nI n ∧ S' = S) ((ct_B_size l g S k n hk hn hc).mono (fun v S' q => ⟨_, q.1, rfl, q.2⟩)), fun S1 h1 => ⟨1, by decide, (ct_M_size l g S1 k hk).mono (fun v S2 q => ?_)⟩⟩
  obtain ⟨b0, S0, ⟨rfl, rfl⟩, rfl⟩ := h1
  obtain ⟨rfl, rfl⟩ := q
  have hU := (yU.rf S0).out (vp_updL (gL S0 31) 0 (Int32.toInt64 (nI n)))
  refine ⟨⟨_, rfl, fun _ => ?_⟩, yx_c _ 0, (hI.U hU).O (mO_yx _ 0)⟩
  rw [hU.n27, hc2]
  exact out_0 S0 _
set_option maxHeartbeats 4000000 in
set_option maxRecDepth 100000 in
theorem duo_key (l : Launch) (hs : l.stackTraces = false) (g : YG) (S : YS) (hI : yInv S) (a : Int32) (b : Int32) : yDuo l g S mn_L_key mb_L_key 5 [(0, 9, 12, 13)] [.ref (g.ad (0)), .int (a), .int (b), .ref (g.ad (31))] mn_M_key mb_M_key 3 (some .long) [.ref (g.ad (24)), .int (a), .int (b)] dJ := by
  by_cases ha : zgr a
  rotate_left
  · exact duo_x 1 (by decide) hI (hp_key_1 l g S a b 9 (by decide) _ (cx_B_key_row l hs g S a b ha)) _ (dJ_x (by decide)) (fun S1 h1 => ct_M_key_row l g S1 a b ha)
  obtain ⟨k, hk, rfl⟩ := zgr_nI ha
  obtain ⟨n, hn, hc, hc2, he⟩ := hI.1 k hk
  by_cases hi0 : zgE n b
  rotate_left
  · exact duo_x 1 (by decide) hI (hp_key_1 l g S (nI k) b 9 (by decide) _ (cx_B_key_i l hs g S k n hk hn hc b hi0)) _ (dJ_x (by decide)) (fun S1 h1 => ct_M_key_i l g S1 k n hk hn (by rw [h1.two.n27]; exact hc2) b hi0)
  obtain ⟨i, hi, rfl⟩ := zgE_nI (by omega) hi0
  refine ⟨0, _, by decide, hp_key_0 l g S (nI k) (nI i) 2 (by decide) (fun b0 S' => b0 = (ye S k i).1 ∧ S' = S) ((ct_B_key l g S k n hk hn hc i hi).mono (fun v S' q => ⟨_, q.1, rfl, q.2⟩)), fun S1 h1 => ?_⟩
  obtain ⟨b0, S0, ⟨rfl, rfl⟩, rfl⟩ := h1
  have hU := (yU.rf S0).out (vp_updL (gL S0 31) 0 ((ye S0 k i).1))
  refine ⟨1, by decide, (ct_M_key l g _ k n hk hn (by rw [hU.n27]; exact hc2) i hi).mono (fun v S2 q => ?_)⟩
  obtain ⟨rfl, rfl⟩ := q
  refine ⟨⟨_, rfl, fun _ => ?_⟩, yx_c _ 0, (hI.U hU).O (mO_yx _ 0)⟩
  rw [hU.ze, ← he i hi]
  exact out_0 S0 _
set_option maxHeartbeats 4000000 in
set_option maxRecDepth 100000 in
theorem duo_tag (l : Launch) (hs : l.stackTraces = false) (g : YG) (S : YS) (hI : yInv S) (a : Int32) (b : Int32) : yDuo l g S mn_L_tag mb_L_tag 5 [(0, 10, 13, 13)] [.ref (g.ad (0)), .int (a), .int (b), .ref (g.ad (31))] mn_M_tag mb_M_tag 3 (some .int) [.ref (g.ad (24)), .int (a), .int (b)] dI := by
  by_cases ha : zgr a
  rotate_left
  · exact duo_x 1 (by decide) hI (hp_tag_1 l g S a b 9 (by decide) _ (cx_B_tag_row l hs g S a b ha)) _ (dI_x (by decide)) (fun S1 h1 => ct_M_tag_row l g S1 a b ha)
  obtain ⟨k, hk, rfl⟩ := zgr_nI ha
  obtain ⟨n, hn, hc, hc2, he⟩ := hI.1 k hk
  by_cases hi0 : zgE n b
  rotate_left
  · exact duo_x 1 (by decide) hI (hp_tag_1 l g S (nI k) b 9 (by decide) _ (cx_B_tag_i l hs g S k n hk hn hc b hi0)) _ (dI_x (by decide)) (fun S1 h1 => ct_M_tag_i l g S1 k n hk hn (by rw [h1.two.n27]; exact hc2) b hi0)
  obtain ⟨i, hi, rfl⟩ := zgE_nI (by omega) hi0
  refine ⟨0, _, by decide, hp_tag_0 l g S (nI k) (nI i) 2 (by decide) (fun b0 S' => b0 = (ye S k i).2 ∧ S' = S) ((ct_B_tag l g S k n hk hn hc i hi).mono (fun v S' q => ⟨_, q.1, rfl, q.2⟩)), fun S1 h1 => ?_⟩
  obtain ⟨b0, S0, ⟨rfl, rfl⟩, rfl⟩ := h1
  have hU := (yU.rf S0).out (vp_updL (gL S0 31) 0 (Int32.toInt64 (ye S0 k i).2))
  refine ⟨1, by decide, (ct_M_tag l g _ k n hk hn (by rw [hU.n27]; exact hc2) i hi).mono (fun v S2 q => ?_)⟩
  obtain ⟨rfl, rfl⟩ := q
  refine ⟨⟨_, rfl, fun _ => ?_⟩, yx_c _ 0, (hI.U hU).O (mO_yx _ 0)⟩
  rw [hU.ze, ← he i hi]
  exact out_0 S0 _
set_option maxHeartbeats 4000000 in
set_option maxRecDepth 100000 in
theorem duo_mark (l : Launch) (hs : l.stackTraces = false) (g : YG) (S : YS) (hI : yInv S) (a : Int32) : yDuo l g S mn_L_mark mb_L_mark 4 [(0, 8, 11, 13)] [.ref (g.ad (0)), .int (a), .ref (g.ad (31))] mn_M_mark mb_M_mark 5 (some .long) [.ref (g.ad (24)), .int (a)] dJ := by
  by_cases ha : zgr a
  rotate_left
  · exact duo_x 1 (by decide) hI (hp_mark_1 l g S a 9 (by decide) _ (cx_B_mark_row l hs g S a ha)) _ (dJ_x (by decide)) (fun S1 h1 => ct_M_mark_row l g S1 a ha)
  obtain ⟨k, hk, rfl⟩ := zgr_nI ha
  obtain ⟨n, hn, hc, hc2, he⟩ := hI.1 k hk
  refine ⟨0, _, by decide, hp_mark_0 l g S (nI k) 2 (by decide) (fun b0 S' => b0 = zmk (ye S k) n ∧ S' = S) ((ct_B_mark l g S k n hk hn hc).mono (fun v S' q => ⟨_, q.1, rfl, q.2⟩)), fun S1 h1 => ?_⟩
  obtain ⟨b0, S0, ⟨rfl, rfl⟩, rfl⟩ := h1
  have hU := (yU.rf S0).out (vp_updL (gL S0 31) 0 (zmk (ye S0 k) n))
  refine ⟨1, by decide, (ct_M_mark l g _ k n hk hn (by rw [hU.n27]; exact hc2)).mono (fun v S2 q => ?_)⟩
  obtain ⟨rfl, rfl⟩ := q
  refine ⟨⟨_, rfl, fun _ => ?_⟩, yx_c _ 0, (hI.U hU).O (mO_yx _ 0)⟩
  rw [hU.ze, ← zmk_congr n he]
  exact out_0 S0 _
set_option maxHeartbeats 4000000 in
set_option maxRecDepth 100000 in
theorem duo_sorted (l : Launch) (hs : l.stackTraces = false) (g : YG) (S : YS) (hI : yInv S) (a : Int32) (b : Int32) : yDuo l g S mn_L_sorted mb_L_sorted 5 [(0, 17, 20, 13), (0, 17, 24, 21)] [.ref (g.ad (0)), .int (a), .int (b), .ref (g.ad (31))] mn_M_sorted mb_M_sorted 3 (some .boolean) [.ref (g.ad (24)), .int (a), .int (b)] dZ := by
  by_cases ha : zgr a
  rotate_left
  · exact duo_x 1 (by decide) hI (hp_sorted_1 l g S a b 9 (by decide) _ (cx_B_sorted_row l hs g S a b ha)) _ (dZ_x (by decide)) (fun S1 h1 => ct_M_sorted_row l g S1 a b ha)
  obtain ⟨k, hk, rfl⟩ := zgr_nI ha
  obtain ⟨n, hn, hc, hc2, he⟩ := hI.1 k hk
  by_cases ho0 : zgo b
  rotate_left
  · exact duo_x 2 (by decide) hI (hp_sorted_2 l g S (nI k) b 9 (by decide) _ (cx_B_sorted_order l hs g S k hk b ho0)) _ (dZ_x (by decide)) (fun S1 h1 => ct_M_sorted_order l g S1 k hk b ho0)
  obtain ⟨od, ho, rfl⟩ := zgo_nI ho0
  refine ⟨0, _, by decide, hp_sorted_0 l g S (nI k) (nI od) 6 (by decide) (fun b0 S' => yU S S' ∧ (b0 = true ↔ zo (zq od false) (zs (ye S k) 0 n))) ((ct_B_sorted l g S k n hk hn hc od ho).mono (fun v S' q => by obtain ⟨bo, q1, q2, q3⟩ := q; exact ⟨bo, q1, q2, q3⟩)), fun S1 h1 => ?_⟩
  obtain ⟨b0, S0, ⟨hU0, hb0⟩, rfl⟩ := h1
  have hU := hU0.out (vp_updL (gL S0 31) 0 (if b0 then 1 else 0))
  refine ⟨3, by decide, (ct_M_sorted l g _ k n hk hn (by rw [hU.n27]; exact hc2) od ho).mono (fun v S2 q => ?_)⟩
  obtain ⟨bo, rfl, rfl, hbo⟩ := q
  rw [hU.ze, ← zs_eq he, ← hb0] at hbo
  have e : bo = b0 := by cases bo <;> cases b0 <;> simp_all
  subst e
  exact ⟨⟨_, rfl, fun _ => out_0 S0 _⟩, yx_c _ 0, (hI.U hU).O (mO_yx _ 0)⟩
set_option maxHeartbeats 4000000 in
set_option maxRecDepth 100000 in
theorem duo_inversions (l : Launch) (hs : l.stackTraces = false) (g : YG) (S : YS) (hI : yInv S) (a : Int32) (b : Int32) : yDuo l g S mn_L_inversions mb_L_inversions 5 [(0, 10, 13, 13), (0, 10, 17, 21)] [.ref (g.ad (0)), .int (a), .int (b), .ref (g.ad (31))] mn_M_inversions mb_M_inversions 6 (some .int) [.ref (g.ad (24)), .int (a), .int (b)] dI := by
  by_cases ha : zgr a
  rotate_left
  · exact duo_x 1 (by decide) hI (hp_inversions_1 l g S a b 9 (by decide) _ (cx_B_inversions_row l hs g S a b ha)) _ (dI_x (by decide)) (fun S1 h1 => ct_M_inversions_row l g S1 a b ha)
  obtain ⟨k, hk, rfl⟩ := zgr_nI ha
  obtain ⟨n, hn, hc, hc2, he⟩ := hI.1 k hk
  by_cases ho0 : zgo b
  rotate_left
  · exact duo_x 2 (by decide) hI (hp_inversions_2 l g S (nI k) b 9 (by decide) _ (cx_B_inversions_order l hs g S k hk b ho0)) _ (dI_x (by decide)) (fun S1 h1 => ct_M_inversions_order l g S1 k hk b ho0)
  obtain ⟨od, ho, rfl⟩ := zgo_nI ho0
  refine ⟨0, _, by decide, hp_inversions_0 l g S (nI k) (nI od) 7 (by decide) (fun b0 S' => b0 = nI (zj (zq od false) (zs (ye S k) 0 n)) ∧ yU S S') ((ct_B_inversions l g S k n hk hn hc od ho).mono (fun v S' q => ⟨_, q.1, rfl, q.2⟩)), fun S1 h1 => ?_⟩
  obtain ⟨b0, S0, ⟨rfl, hU0⟩, rfl⟩ := h1
  have hU := hU0.out (vp_updL (gL S0 31) 0 (Int32.toInt64 (nI (zj (zq od false) (zs (ye S k) 0 n)))))
  refine ⟨3, by decide, (ct_M_inversions l g _ k n hk hn (by rw [hU.n27]; exact hc2) od ho).mono (fun v S2 q => ?_)⟩
  obtain ⟨rfl, rfl⟩ := q
  refine ⟨⟨_, rfl, fun _ => ?_⟩, yx_c _ 0, (hI.U hU).O (mO_yx _ 0)⟩
  rw [hU.ze, ← zs_eq he]
  exact out_0 S0 _
set_option maxHeartbeats 4000000 in
set_option maxRecDepth 100000 in
theorem duo_runs (l : Launch) (hs : l.stackTraces = false) (g : YG) (S : YS) (hI : yInv S) (a : Int32) (b : Int32) : yDuo l g S mn_L_runs mb_L_runs 5 [(0, 10, 13, 13), (0, 10, 17, 21)] [.ref (g.ad (0)), .int (a), .int (b), .ref (g.ad (31))] mn_M_runs mb_M_runs 6 (some .int) [.ref (g.ad (24)), .int (a), .int (b)] dI := by
  by_cases ha : zgr a
  rotate_left
  · exact duo_x 1 (by decide) hI (hp_runs_1 l g S a b 9 (by decide) _ (cx_B_runs_row l hs g S a b ha)) _ (dI_x (by decide)) (fun S1 h1 => ct_M_runs_row l g S1 a b ha)
  obtain ⟨k, hk, rfl⟩ := zgr_nI ha
  obtain ⟨n, hn, hc, hc2, he⟩ := hI.1 k hk
  by_cases ho0 : zgo b
  rotate_left
  · exact duo_x 2 (by decide) hI (hp_runs_2 l g S (nI k) b 9 (by decide) _ (cx_B_runs_order l hs g S k hk b ho0)) _ (dI_x (by decide)) (fun S1 h1 => ct_M_runs_order l g S1 k hk b ho0)
  obtain ⟨od, ho, rfl⟩ := zgo_nI ho0
  refine ⟨0, _, by decide, hp_runs_0 l g S (nI k) (nI od) 6 (by decide) (fun b0 S' => b0 = nI (zrn (fun j => decide (zq od false ((ye S k) j) < zq od false ((ye S k) (j - 1)))) n (n + 1) 0) ∧ yU S S') ((ct_B_runs l g S k n hk hn hc od ho).mono (fun v S' q => ⟨_, q.1, rfl, q.2⟩)), fun S1 h1 => ?_⟩
  obtain ⟨b0, S0, ⟨rfl, hU0⟩, rfl⟩ := h1
  have hU := hU0.out (vp_updL (gL S0 31) 0 (Int32.toInt64 (nI (zrn (fun j => decide (zq od false ((ye S k) j) < zq od false ((ye S k) (j - 1)))) n (n + 1) 0))))
  refine ⟨4, by decide, (ct_M_runs l g _ k n hk hn (by rw [hU.n27]; exact hc2) od ho).mono (fun v S2 q => ?_)⟩
  obtain ⟨rfl, rfl⟩ := q
  refine ⟨⟨_, rfl, fun _ => ?_⟩, yx_c _ 0, (hI.U hU).O (mO_yx _ 0)⟩
  rw [hU.ze, zrn_congr (b := (fun j => decide (zq od false (ze4 S k j) < zq od false (ze4 S k (j - 1))))) (b' := (fun j => decide (zq od false (ye S k j) < zq od false (ye S k (j - 1))))) (fun j hj => by rw [he j hj, he (j - 1) (by omega)])]
  exact out_0 S0 _
set_option maxHeartbeats 4000000 in
set_option maxRecDepth 100000 in
theorem duo_climb (l : Launch) (hs : l.stackTraces = false) (g : YG) (S : YS) (hI : yInv S) (a : Int32) (b : Int32) : yDuo l g S mn_L_climb mb_L_climb 5 [(0, 10, 13, 13), (0, 10, 17, 21)] [.ref (g.ad (0)), .int (a), .int (b), .ref (g.ad (31))] mn_M_climb mb_M_climb 6 (some .int) [.ref (g.ad (24)), .int (a), .int (b)] dI := by
  by_cases ha : zgr a
  rotate_left
  · exact duo_x 1 (by decide) hI (hp_climb_1 l g S a b 9 (by decide) _ (cx_B_climb_row l hs g S a b ha)) _ (dI_x (by decide)) (fun S1 h1 => ct_M_climb_row l g S1 a b ha)
  obtain ⟨k, hk, rfl⟩ := zgr_nI ha
  obtain ⟨n, hn, hc, hc2, he⟩ := hI.1 k hk
  by_cases ho0 : zgo b
  rotate_left
  · exact duo_x 2 (by decide) hI (hp_climb_2 l g S (nI k) b 9 (by decide) _ (cx_B_climb_order l hs g S k hk b ho0)) _ (dI_x (by decide)) (fun S1 h1 => ct_M_climb_order l g S1 k hk b ho0)
  obtain ⟨od, ho, rfl⟩ := zgo_nI ho0
  refine ⟨0, _, by decide, hp_climb_0 l g S (nI k) (nI od) 6 (by decide) (fun b0 S' => b0 = nI (zmost (zlg (zq od false) (ye S k)) n) ∧ yU S S') ((ct_B_climb l g S k n hk hn hc od ho).mono (fun v S' q => ⟨_, q.1, rfl, q.2⟩)), fun S1 h1 => ?_⟩
  obtain ⟨b0, S0, ⟨rfl, hU0⟩, rfl⟩ := h1
  have hU := hU0.out (vp_updL (gL S0 31) 0 (Int32.toInt64 (nI (zmost (zlg (zq od false) (ye S k)) n))))
  refine ⟨4, by decide, (ct_M_climb l g _ k n hk hn (by rw [hU.n27]; exact hc2) od ho).mono (fun v S2 q => ?_)⟩
  obtain ⟨h', rfl, rfl⟩ := q
  refine ⟨⟨_, rfl, fun _ => ?_⟩, by rw [gF_sI]; exact yx_c _ 0, ((hI.U hU).O (mO_yx _ 0)).O (mO_30 _ h')⟩
  rw [hU.ze, ← zmost_congr n (zlg_congr (r := zq od false) he)]
  exact out_0 S0 _
set_option maxHeartbeats 4000000 in
set_option maxRecDepth 100000 in
theorem duo_ranked (l : Launch) (hs : l.stackTraces = false) (g : YG) (S : YS) (hI : yInv S) (a : Int32) (b : Int32) (c : Int32) : yDuo l g S mn_L_ranked mb_L_ranked 6 [(0, 12, 15, 13), (0, 12, 19, 21)] [.ref (g.ad (0)), .int (a), .int (b), .int (c), .ref (g.ad (31))] mn_M_ranked mb_M_ranked 4 (some .int) [.ref (g.ad (24)), .int (a), .int (b), .int (c)] dI := by
  by_cases ha : zgr a
  rotate_left
  · exact duo_x 1 (by decide) hI (hp_ranked_1 l g S a b c 9 (by decide) _ (cx_B_ranked_row l hs g S a b c ha)) _ (dI_x (by decide)) (fun S1 h1 => ct_M_ranked_row l g S1 a b c ha)
  obtain ⟨k, hk, rfl⟩ := zgr_nI ha
  obtain ⟨n, hn, hc, hc2, he⟩ := hI.1 k hk
  by_cases hi0 : zgE n c
  rotate_left
  · exact duo_x 1 (by decide) hI (hp_ranked_1 l g S (nI k) b c 9 (by decide) _ (cx_B_ranked_i l hs g S k n hk hn hc b c hi0)) _ (dI_x (by decide)) (fun S1 h1 => ct_M_ranked_i l g S1 k n hk hn (by rw [h1.two.n27]; exact hc2) b c hi0)
  obtain ⟨i, hi, rfl⟩ := zgE_nI (by omega) hi0
  by_cases ho0 : zgo b
  rotate_left
  · exact duo_x 2 (by decide) hI (hp_ranked_2 l g S (nI k) b (nI i) 9 (by decide) _ (cx_B_ranked_order l hs g S k n hk hn hc b i hi ho0)) _ (dI_x (by decide)) (fun S1 h1 => ct_M_ranked_order l g S1 k n hk hn (by rw [h1.two.n27]; exact hc2) b i hi ho0)
  obtain ⟨od, ho, rfl⟩ := zgo_nI ho0
  refine ⟨0, _, by decide, hp_ranked_0 l g S (nI k) (nI od) (nI i) 7 (by decide) (fun b0 S' => ∃ f' : Nat → Int64 × Int32, b0 = (f' i).2 ∧ yU S S' ∧ zs f' 0 n = zt (zq od false) (zs (ye S k) 0 n)) ((ct_B_ranked l g S k n hk hn hc od i ho hi).mono (fun v S' q => by obtain ⟨f', q1, q2, q3⟩ := q; exact ⟨_, q1, f', rfl, q2, q3⟩)), fun S1 h1 => ?_⟩
  obtain ⟨b0, S0, ⟨f', rfl, hU0, hf⟩, rfl⟩ := h1
  have hU := hU0.out (vp_updL (gL S0 31) 0 (Int32.toInt64 (f' i).2))
  refine ⟨6, by decide, (ct_M_ranked l g _ k n hk hn (by rw [hU.n27]; exact hc2) od i ho hi).mono (fun v S2 q => ?_)⟩
  obtain ⟨f, rfl, rfl, hf2⟩ := q
  rw [hU.ze, ← zs_eq he, ← hf] at hf2
  refine ⟨⟨_, rfl, fun _ => ?_⟩, ?_, ((hI.U hU).O (mO_yx _ 0)).O (mO_mW _ f n)⟩
  · rw [zs_pt hf2 hi]
    rw [(mO_mW _ f n).2]
    exact out_0 S0 _
  · unfold mW; rw [gF_sF, if_neg (by decide), gF_sI, gF_sL]; exact yx_c _ 0
set_option maxHeartbeats 4000000 in
set_option maxRecDepth 100000 in
theorem duo_find (l : Launch) (hs : l.stackTraces = false) (g : YG) (S : YS) (hI : yInv S) (a : Int32) (b : Int32) (c : Int64) (d : Bool) : yDuo l g S mn_L_find mb_L_find 8 [(0, 14, 17, 13), (0, 14, 21, 21), (0, 14, 25, 15)] [.ref (g.ad (0)), .int (a), .int (b), .long (c), .int (yb d), .ref (g.ad (31))] mn_M_find mb_M_find 10 (some .int) [.ref (g.ad (24)), .int (a), .int (b), .long (c), .int (yb d)] dI := by
  by_cases ha : zgr a
  rotate_left
  · exact duo_x 1 (by decide) hI (hp_find_1 l g S a b c (yb d) 9 (by decide) _ (cx_B_find_row l hs g S a b c (yb d) ha)) _ (dI_x (by decide)) (fun S1 h1 => ct_M_find_row l g S1 a b c (yb d) ha)
  obtain ⟨k, hk, rfl⟩ := zgr_nI ha
  obtain ⟨n, hn, hc, hc2, he⟩ := hI.1 k hk
  by_cases ho0 : zgo b
  rotate_left
  · exact duo_x 2 (by decide) hI (hp_find_2 l g S (nI k) b c (yb d) 9 (by decide) _ (cx_B_find_order l hs g S k hk b c (yb d) ho0)) _ (dI_x (by decide)) (fun S1 h1 => ct_M_find_order l g S1 k hk b c (yb d) ho0)
  obtain ⟨od, ho, rfl⟩ := zgo_nI ho0
  by_cases hz : zo (zq od false) (zs (ye S k) 0 n)
  rotate_left
  · exact duo_x 3 (by decide) hI (hp_find_3 l g S (nI k) (nI od) c (yb d) 9 (by decide) _ (cx_B_find_state l hs g S k n hk hn hc od ho c (yb d) hz)) _ (dI_x (by decide)) (fun S1 h1 => ct_M_find_state l g S1 k n hk hn (by rw [h1.two.n27]; exact hc2) od ho c (yb d) (by rw [h1.two.ze, ← zs_eq he]; exact hz))
  refine ⟨0, _, by decide, hp_find_0 l g S (nI k) (nI od) c (yb d) 7 (by decide) (fun b0 S' => ∃ p, b0 = nI p ∧ yU S S' ∧ p ≤ n ∧ (∀ j, j < p → zcd d (zr od ((ye S k) j).1) (zr od c)) ∧ (∀ j, p ≤ j → j < n → ¬ zcd d (zr od ((ye S k) j).1) (zr od c))) ((ct_B_find l g S k n hk hn hc od ho hz c d).mono (fun v S' q => by obtain ⟨p, q1, q2⟩ := q; exact ⟨_, q1, p, rfl, q2⟩)), fun S1 h1 => ?_⟩
  obtain ⟨b0, S0, ⟨p, rfl, hU0, hp1, hp2, hp3⟩, rfl⟩ := h1
  have hU := hU0.out (vp_updL (gL S0 31) 0 (Int32.toInt64 (nI p)))
  refine ⟨4, by decide, (ct_M_find l g _ k n hk hn (by rw [hU.n27]; exact hc2) od ho (by rw [hU.ze, ← zs_eq he]; exact hz) c d).mono (fun v S2 q => ?_)⟩
  obtain ⟨rfl, rfl⟩ := q
  refine ⟨⟨_, rfl, fun _ => ?_⟩, yx_c _ 0, (hI.U hU).O (mO_yx _ 0)⟩
  rw [hU.ze, zfn_of n hp1 (fun j hj => zfb_cd.mpr (by rw [← he j (by omega)]; exact hp2 j hj)) (fun j q1 q2 => by
    have z := hp3 j q1 q2
    rw [he j q2] at z
    exact Bool.eq_false_iff.mpr (fun e => z (zfb_cd.mp e)))]
  exact out_0 S0 _

