/-! BOTH SIDES: calls that write -/
theorem wA {S A : YS} {k n : Nat} {f : Nat → Int64 × Int32} (hk : k < 4) (hA : yU2 (sF (yz S k f) (2 + k) 2 (nI n)) A) : (∀ q, ze4 A q = ze4 S q) ∧ gI A 27 = gI S 27 := by
  refine ⟨fun q => ?_, ?_⟩
  · rw [hA.ze]
    funext j
    unfold ze4
    rw [gL_sF, gI_sF, gI_yz _ (by omega)]
    unfold yz
    rw [gL_sI, gL_sL, if_neg (by omega)]
  · rw [hA.n27, gI_sF, gI_yz _ (by omega)]
theorem upd_same {f : Nat → Int32} {k : Nat} {v : Int32} (h : f k = v) : upd f k v = f := by
  funext j
  unfold upd
  split
  · rename_i e; rw [e, h]
  · rfl
theorem row_same {S : YS} {k n : Nat} {f : Nat → Int64 × Int32} (hc : gF S (2 + k) 2 = nI n) : sF (yz S k f) (2 + k) 2 (nI n) = yz S k f := sF_same hc
theorem mK27_same {A : YS} {k n : Nat} {K : Nat → Int64} {T : Nat → Int32} (hc : gI A 27 k = nI n) : sI (mK (yx A 0) K T) 27 (upd (gI A 27) k (nI n)) = mK (yx A 0) K T := by
  rw [upd_same hc]
  refine YS_ext (fun c => rfl) (fun c => ?_) (fun c k => rfl)
  rw [gI_sI]
  split
  · rename_i e; rw [e, mK_I _ _ _ (by decide)]; rfl
  · rfl
theorem mK_26 (A : YS) (T : Nat → Int32) : mK (yx A 0) (gL A 25) T = sI (yx A 0) 26 T := by
  refine YS_ext (fun c => ?_) (fun c => rfl) (fun c k => rfl)
  show gL (sL (yx A 0) 25 (gL A 25)) c = gL A c
  rw [gL_sL]
  split
  · rename_i e; rw [e]
  · rfl
/-- the reference's row k, written as asked: the end -/
theorem fin_b {S A : YS} {k n N : Nat} {f : Nat → Int64 × Int32} {K : Nat → Int64} {T : Nat → Int32} (hI : yInv S) (hk : k < 4) (hn : n ≤ 1024) (hA : yU2 (sF (yz S k f) (2 + k) 2 (nI n)) A) (hN : N ≤ 1024) (h7 : ∀ j, j < 1024 * k ∨ 1024 * k + N ≤ j → K j = gL A 25 j ∧ T j = gI A 26 j) (he : ∀ j, j < n → f j = (K (1024 * k + j), T (1024 * k + j))) : gF (sI (mK (yx A 0) K T) 27 (upd (gI A 27) k (nI n))) 24 0 = nI 0 ∧ yInv (sI (mK (yx A 0) K T) 27 (upd (gI A 27) k (nI n))) := by
  obtain ⟨z1, z2, z3, z4, z5, z6⟩ := sz_b A K T (upd (gI A 27) k (nI n))
  exact ⟨z3, yInv_w (h := fun j => (K (1024 * k + j), T (1024 * k + j))) hI hk hn hA (mR_of hk hn z1 z2 z3 z4 z5 z6 hN h7 (fun j _ => rfl)) he⟩
theorem fin_a {S A : YS} {k n N m : Nat} {f h : Nat → Int64 × Int32} {K : Nat → Int64} {T : Nat → Int32} (hI : yInv S) (hk : k < 4) (hn : n ≤ 1024) (hA : yU2 (sF (yz S k f) (2 + k) 2 (nI n)) A) (hN : N ≤ 1024) (h7 : ∀ j, j < 1024 * k ∨ 1024 * k + N ≤ j → K j = gL A 25 j ∧ T j = gI A 26 j) (h8 : ∀ j, j < n → K (1024 * k + j) = (h j).1 ∧ T (1024 * k + j) = (h j).2) (he : ∀ j, j < n → f j = h j) : gF (sI (mK (mW (yx A 0) h m) K T) 27 (upd (gI A 27) k (nI n))) 24 0 = nI 0 ∧ yInv (sI (mK (mW (yx A 0) h m) K T) 27 (upd (gI A 27) k (nI n))) ∧ gL (sI (mK (mW (yx A 0) h m) K T) 27 (upd (gI A 27) k (nI n))) 31 = gL A 31 := by
  obtain ⟨z1, z2, z3, z4, z5, z6⟩ := sz_a A h m K T (upd (gI A 27) k (nI n))
  exact ⟨z3, yInv_w (h := h) hI hk hn hA (mR_of hk hn z1 z2 z3 z4 z5 z6 hN h7 (fun j hj => by rw [(h8 j hj).1, (h8 j hj).2])) he, z2⟩
set_option maxHeartbeats 4000000 in
set_option maxRecDepth 100000 in
theorem duo_add (l : Launch) (hs : l.stackTraces = false) (g : YG) (S : YS) (hI : yInv S) (a : Int32) (b : Int64) (c : Int32) : yDuo l g S mn_L_add mb_L_add 7 [(0, 13, 16, 13), (0, 13, 20, 15)] [.ref (g.ad (0)), .int (a), .long (b), .int (c), .ref (g.ad (31))] mn_M_add mb_M_add 5 (some .int) [.ref (g.ad (24)), .int (a), .long (b), .int (c)] dI := by
  by_cases ha : zgr a
  rotate_left
  · exact duo_x 1 (by decide) hI (hp_add_1 l g S a b c 9 (by decide) _ (cx_B_add_row l hs g S a b c ha)) _ (dI_x (by decide)) (fun S1 h1 => ct_M_add_row l g S1 a b c ha)
  obtain ⟨k, hk, rfl⟩ := zgr_nI ha
  obtain ⟨n, hn, hc, hc2, he⟩ := hI.1 k hk
  by_cases hf : n < 1024
  rotate_left
  · exact duo_x 2 (by decide) hI (hp_add_2 l g S (nI k) b c 9 (by decide) _ (cx_B_add_full l hs g S k n hk hn hc b c hf)) _ (dI_x (by decide)) (fun S1 h1 => ct_M_add_full l g S1 k n hk hn (by rw [h1.two.n27]; exact hc2) b c hf)
  refine ⟨0, _, by decide, hp_add_0 l g S (nI k) b c 2 (by decide) (fun b0 S' => b0 = nI (n + 1) ∧ S' = sF (yz S k (va_up (ye S k) n (b, c))) (2 + k) 2 (nI (n + 1))) ((ct_B_add l g S k n hk hn hc hf b c).mono (fun v S' q => ⟨_, q.1, rfl, q.2⟩)), fun S1 h1 => ?_⟩
  obtain ⟨b0, S0, ⟨rfl, hS0⟩, hS1⟩ := h1
  have hA : yU2 (sF (yz S k (va_up (ye S k) n (b, c))) (2 + k) 2 (nI (n + 1))) S1 := by rw [hS1, hS0]; exact (yU.rf _).out _
  have hout : gL S1 31 0 = Int32.toInt64 (nI (n + 1)) := by rw [hS1]; exact out_0 S0 _
  have hw := wA hk hA
  refine ⟨1, by decide, (ct_M_add l g S1 k n hk hf (by rw [hw.2]; exact hc2) b c).mono (fun v S2 q => ?_)⟩
  obtain ⟨rfl, rfl⟩ := q
  have hz := fin_b (N := n + 1) (K := vp_updL (gL S1 25) (1024 * k + n) b) (T := upd (gI S1 26) (1024 * k + n) c) hI hk (by omega) hA (by omega) (fun j hj => by unfold vp_updL upd; rw [if_neg (by omega), if_neg (by omega)]; exact ⟨rfl, rfl⟩) (fun j hj => by
    unfold vp_updL upd va_up
    by_cases e : j = n
    · rw [if_pos e, if_pos (by omega), if_pos (by omega)]
    · rw [if_neg e, if_neg (by omega), if_neg (by omega), he j (by omega), ← hw.1]; rfl)
  exact ⟨⟨_, rfl, fun _ => hout⟩, hz⟩
set_option maxHeartbeats 4000000 in
set_option maxRecDepth 100000 in
theorem duo_cut (l : Launch) (hs : l.stackTraces = false) (g : YG) (S : YS) (hI : yInv S) (a : Int32) (b : Int32) : yDuo l g S mn_L_cut mb_L_cut 4 [(0, 6, 9, 13), (0, 6, 12, 21)] [.ref (g.ad (0)), .int (a), .int (b)] mn_M_cut mb_M_cut 3 none [.ref (g.ad (24)), .int (a), .int (b)] dV := by
  by_cases ha : zgr a
  rotate_left
  · exact duo_x 1 (by decide) hI (hp_cut_1 l g S a b 9 (by decide) _ (cx_B_cut_row l hs g S a b ha)) _ dV_x (fun S1 h1 => ct_M_cut_row l g S1 a b ha)
  obtain ⟨k, hk, rfl⟩ := zgr_nI ha
  obtain ⟨n, hn, hc, hc2, he⟩ := hI.1 k hk
  by_cases hb : zgB n b
  rotate_left
  · exact duo_x 2 (by decide) hI (hp_cut_2 l g S (nI k) b 9 (by decide) _ (cx_B_cut_n l hs g S k n hk hn hc b hb)) _ dV_x (fun S1 h1 => ct_M_cut_n l g S1 k n hk hn (by rw [h1.two.n27]; exact hc2) b hb)
  obtain ⟨m, hm, rfl⟩ := zgB_nI (by omega) hb
  refine ⟨0, _, by decide, hp_cut_0 l g S (nI k) (nI m) 2 (by decide) (fun S' => S' = sF (yz S k (ye S k)) (2 + k) 2 (nI m)) ((ct_B_cut l g S k n hk hn hc m hm).mono (fun v S' q => ⟨q.1, by rw [q.2, yz_self]⟩)), fun S1 h1 => ?_⟩
  have hA : yU2 (sF (yz S k (ye S k)) (2 + k) 2 (nI m)) S1 := by rw [h1]; exact (yU.rf _).two
  have hw := wA hk hA
  refine ⟨1, by decide, (ct_M_cut l g S1 k n hk hn (by rw [hw.2]; exact hc2) m hm).mono (fun v S2 q => ?_)⟩
  obtain ⟨rfl, rfl⟩ := q
  have hz := fin_b (N := 0) (K := gL S1 25) (T := gI S1 26) hI hk (by omega) hA (by omega) (fun j _ => ⟨rfl, rfl⟩) (fun j hj => by rw [he j (by omega), ← hw.1]; rfl)
  rw [show mK (yx S1 0) (gL S1 25) (gI S1 26) = yx S1 0 from mK_self (yx S1 0)] at hz
  exact ⟨rfl, hz⟩
set_option maxHeartbeats 4000000 in
set_option maxRecDepth 100000 in
theorem duo_swap (l : Launch) (hs : l.stackTraces = false) (g : YG) (S : YS) (hI : yInv S) (a : Int32) (b : Int32) (c : Int32) : yDuo l g S mn_L_swap mb_L_swap 5 [(0, 7, 10, 13)] [.ref (g.ad (0)), .int (a), .int (b), .int (c)] mn_M_swap mb_M_swap 9 none [.ref (g.ad (24)), .int (a), .int (b), .int (c)] dV := by
  by_cases ha : zgr a
  rotate_left
  · exact duo_x 1 (by decide) hI (hp_swap_1 l g S a b c 9 (by decide) _ (cx_B_swap_row l hs g S a b c ha)) _ dV_x (fun S1 h1 => ct_M_swap_row l g S1 a b c ha)
  obtain ⟨k, hk, rfl⟩ := zgr_nI ha
  obtain ⟨n, hn, hc, hc2, he⟩ := hI.1 k hk
  by_cases hi0 : zgE n b
  rotate_left
  · exact duo_x 1 (by decide) hI (hp_swap_1 l g S (nI k) b c 9 (by decide) _ (cx_B_swap_i l hs g S k n hk hn hc b c hi0)) _ dV_x (fun S1 h1 => ct_M_swap_i l g S1 k n hk hn (by rw [h1.two.n27]; exact hc2) b c hi0)
  obtain ⟨i, hi, rfl⟩ := zgE_nI (by omega) hi0
  by_cases hj0 : zgE n c
  rotate_left
  · exact duo_x 1 (by decide) hI (hp_swap_1 l g S (nI k) (nI i) c 9 (by decide) _ (cx_B_swap_j l hs g S k n hk hn hc i hi c hj0)) _ dV_x (fun S1 h1 => ct_M_swap_j l g S1 k n hk hn (by rw [h1.two.n27]; exact hc2) i hi c hj0)
  obtain ⟨j, hj, rfl⟩ := zgE_nI (by omega) hj0
  refine ⟨0, _, by decide, hp_swap_0 l g S (nI k) (nI i) (nI j) 2 (by decide) (fun S' => S' = sF (yz S k (zw (ye S k) i j)) (2 + k) 2 (nI n)) ((ct_B_swap l g S k n hk hn hc i j hi hj).mono (fun v S' q => ⟨q.1, by rw [q.2, row_same hc]⟩)), fun S1 h1 => ?_⟩
  have hA : yU2 (sF (yz S k (zw (ye S k) i j)) (2 + k) 2 (nI n)) S1 := by rw [h1]; exact (yU.rf _).two
  have hw := wA hk hA
  have hcA : gI S1 27 k = nI n := by rw [hw.2]; exact hc2
  refine ⟨1, by decide, (ct_M_swap l g S1 k n hk hn hcA i j hi hj).mono (fun v S2 q => ?_)⟩
  obtain ⟨rfl, rfl⟩ := q
  have hf : ∀ t, t < n → ye S k t = (gL S1 25 (1024 * k + t), gI S1 26 (1024 * k + t)) := fun t ht => by rw [he t ht, ← hw.1]; rfl
  have hz := fin_b (N := n) (K := vp_updL (vp_updL (gL S1 25) (1024 * k + i) (gL S1 25 (1024 * k + j))) (1024 * k + j) (gL S1 25 (1024 * k + i))) (T := upd (upd (gI S1 26) (1024 * k + i) (gI S1 26 (1024 * k + j))) (1024 * k + j) (gI S1 26 (1024 * k + i))) hI hk hn hA hn (fun t ht => by unfold vp_updL upd; rw [if_neg (by omega), if_neg (by omega), if_neg (by omega), if_neg (by omega)]; exact ⟨rfl, rfl⟩) (fun t ht => by
    unfold zw vp_updL upd va_up
    have c1 : (1024 * k + t = 1024 * k + j) = (t = j) := propext (by omega)
    have c2 : (1024 * k + t = 1024 * k + i) = (t = i) := propext (by omega)
    simp only [c1, c2]
    by_cases e : t = j
    · rw [if_pos e, if_pos e, if_pos e]; exact hf i hi
    · rw [if_neg e, if_neg e, if_neg e]
      by_cases e2 : t = i
      · rw [if_pos e2, if_pos e2, if_pos e2]; exact hf j hj
      · rw [if_neg e2, if_neg e2, if_neg e2]; exact hf t ht)
  rw [mK27_same hcA] at hz
  exact ⟨rfl, hz⟩
set_option maxHeartbeats 4000000 in
set_option maxRecDepth 100000 in
theorem duo_number (l : Launch) (hs : l.stackTraces = false) (g : YG) (S : YS) (hI : yInv S) (a : Int32) : yDuo l g S mn_L_number mb_L_number 3 [(0, 5, 8, 13)] [.ref (g.ad (0)), .int (a)] mn_M_number mb_M_number 3 none [.ref (g.ad (24)), .int (a)] dV := by
  by_cases ha : zgr a
  rotate_left
  · exact duo_x 1 (by decide) hI (hp_number_1 l g S a 9 (by decide) _ (cx_B_number_row l hs g S a ha)) _ dV_x (fun S1 h1 => ct_M_number_row l g S1 a ha)
  obtain ⟨k, hk, rfl⟩ := zgr_nI ha
  obtain ⟨n, hn, hc, hc2, he⟩ := hI.1 k hk
  refine ⟨0, _, by decide, hp_number_0 l g S (nI k) 3 (by decide) (fun S' => S' = sF (yz S k (znm (ye S k) n)) (2 + k) 2 (nI n)) ((ct_B_number l g S k n hk hn hc).mono (fun v S' q => ⟨q.1, by rw [q.2, row_same hc]⟩)), fun S1 h1 => ?_⟩
  have hA : yU2 (sF (yz S k (znm (ye S k) n)) (2 + k) 2 (nI n)) S1 := by rw [h1]; exact (yU.rf _).two
  have hw := wA hk hA
  have hcA : gI S1 27 k = nI n := by rw [hw.2]; exact hc2
  refine ⟨1, by decide, (ct_M_number l g S1 k n hk hn hcA).mono (fun v S2 q => ?_)⟩
  obtain ⟨T, rfl, rfl, g1, g2⟩ := q
  have hf : ∀ t, t < n → ye S k t = (gL S1 25 (1024 * k + t), gI S1 26 (1024 * k + t)) := fun t ht => by rw [he t ht, ← hw.1]; rfl
  have hz := fin_b (N := n) (K := gL S1 25) (T := T) hI hk hn hA hn (fun t ht => ⟨rfl, g2 t ht⟩) (fun t ht => by unfold znm; rw [if_pos ht, hf t ht, g1 t ht])
  rw [mK27_same hcA, mK_26] at hz
  exact ⟨rfl, hz⟩
set_option maxHeartbeats 4000000 in
set_option maxRecDepth 100000 in
theorem duo_copy (l : Launch) (hs : l.stackTraces = false) (g : YG) (S : YS) (hI : yInv S) (a : Int32) (b : Int32) : yDuo l g S mn_L_copy mb_L_copy 4 [(0, 6, 9, 13)] [.ref (g.ad (0)), .int (a), .int (b)] mn_M_copy mb_M_copy 4 none [.ref (g.ad (24)), .int (a), .int (b)] dV := by
  by_cases ha : zgr a
  rotate_left
  · exact duo_x 1 (by decide) hI (hp_copy_1 l g S a b 9 (by decide) _ (cx_B_copy_row l hs g S a b ha)) _ dV_x (fun S1 h1 => ct_M_copy_row l g S1 a b ha)
  obtain ⟨k, hk, rfl⟩ := zgr_nI ha
  obtain ⟨n, hn, hc, hc2, he⟩ := hI.1 k hk
  by_cases hb : zgr b
  rotate_left
  · exact duo_x 1 (by decide) hI (hp_copy_1 l g S (nI k) b 9 (by decide) _ (cx_B_copy_to l hs g S k hk b hb)) _ dV_x (fun S1 h1 => ct_M_copy_to l g S1 k hk b hb)
  obtain ⟨q, hq, rfl⟩ := zgr_nI hb
  refine ⟨0, _, by decide, hp_copy_0 l g S (nI k) (nI q) 3 (by decide) (fun S' => S' = sF (yz S q (va_cpy (ye S k) (ye S q) 0 0 n)) (2 + q) 2 (nI n)) ((ct_B_copy l g S k n hk hn hc q hq).mono (fun v S' q => ⟨q.1, q.2⟩)), fun S1 h1 => ?_⟩
  have hA : yU2 (sF (yz S q (va_cpy (ye S k) (ye S q) 0 0 n)) (2 + q) 2 (nI n)) S1 := by rw [h1]; exact (yU.rf _).two
  have hw := wA hq hA
  refine ⟨1, by decide, (ct_M_copy l g S1 k n hk hn (by rw [hw.2]; exact hc2) q hq).mono (fun v S2 qq => ?_)⟩
  obtain ⟨K, T, rfl, rfl, g1, g2⟩ := qq
  have hf : ∀ t, t < n → ye S k t = (gL S1 25 (1024 * k + t), gI S1 26 (1024 * k + t)) := fun t ht => by rw [he t ht, ← hw.1]; rfl
  have hz := fin_b (N := n) (K := K) (T := T) hI hq hn hA hn g2 (fun t ht => by unfold va_cpy; rw [if_pos (by omega), show 0 + (t - 0) = t by omega, hf t ht, (g1 t ht).1, (g1 t ht).2])
  rw [sz_c]
  exact ⟨rfl, hz⟩
set_option maxHeartbeats 4000000 in
set_option maxRecDepth 100000 in
theorem duo_fill (l : Launch) (hs : l.stackTraces = false) (g : YG) (S : YS) (hI : yInv S) (a : Int32) (b : Int32) (c : Int32) (d : Int64) (e : Int32) : yDuo l g S mn_L_fill mb_L_fill 8 [(0, 11, 14, 13), (0, 11, 18, 21)] [.ref (g.ad (0)), .int (a), .int (b), .int (c), .long (d), .int (e)] mn_M_fill mb_M_fill 12 none [.ref (g.ad (24)), .int (a), .int (b), .int (c), .long (d), .int (e)] dV := by
  by_cases ha : zgr a
  rotate_left
  · exact duo_x 1 (by decide) hI (hp_fill_1 l g S a b c d e 9 (by decide) _ (cx_B_fill_row l hs g S a b c d e ha)) _ dV_x (fun S1 h1 => ct_M_fill_row l g S1 a b c d e ha)
  obtain ⟨k, hk, rfl⟩ := zgr_nI ha
  obtain ⟨n, hn, hc, hc2, he⟩ := hI.1 k hk
  by_cases hb : zgB 1024 b
  rotate_left
  · exact duo_x 2 (by decide) hI (hp_fill_2 l g S (nI k) b c d e 9 (by decide) _ (cx_B_fill_n l hs g S k hk b c d e hb)) _ dV_x (fun S1 h1 => ct_M_fill_n l g S1 k hk b c d e hb)
  obtain ⟨m, hm, rfl⟩ := zgB_nI (by omega) hb
  by_cases hc5 : zgB 5 c
  rotate_left
  · exact duo_x 2 (by decide) hI (hp_fill_2 l g S (nI k) (nI m) c d e 9 (by decide) _ (cx_B_fill_kind l hs g S k m hk hm c d e hc5)) _ dV_x (fun S1 h1 => ct_M_fill_kind l g S1 k m hk hm c d e hc5)
  obtain ⟨kd, hkd, rfl⟩ := zgB_nI (by omega) hc5
  refine ⟨0, _, by decide, hp_fill_0 l g S (nI k) (nI m) (nI kd) d e 3 (by decide) (fun S' => ∃ f', S' = sF (yz S k f') (2 + k) 2 (nI m) ∧ ∀ j, j < m → f' j = zfl5 kd m d e j) ((ct_B_fill l g S k m kd hk hm (by omega) d e).mono (fun v S' q => by obtain ⟨f', q1, q2, q3⟩ := q; exact ⟨q1, f', q2, q3⟩)), fun S1 h1 => ?_⟩
  obtain ⟨f', hS1, hf'⟩ := h1
  have hA : yU2 (sF (yz S k f') (2 + k) 2 (nI m)) S1 := by rw [hS1]; exact (yU.rf _).two
  refine ⟨1, by decide, (ct_M_fill l g S1 k m kd hk hm (by omega) d e).mono (fun v S2 q => ?_)⟩
  obtain ⟨K, T, rfl, rfl, g1, g2⟩ := q
  exact ⟨rfl, fin_b (N := m) hI hk hm hA hm g2 (fun t ht => by rw [hf' t ht, g1 t ht])⟩
set_option maxHeartbeats 4000000 in
set_option maxRecDepth 100000 in
theorem duo_sort (l : Launch) (hs : l.stackTraces = false) (g : YG) (S : YS) (hI : yInv S) (a : Int32) (b : Int32) (c : Int32) : yDuo l g S mn_L_sort mb_L_sort 5 [(0, 7, 10, 13), (0, 7, 14, 21)] [.ref (g.ad (0)), .int (a), .int (b), .int (c)] mn_M_sort mb_M_sort 5 none [.ref (g.ad (24)), .int (a), .int (b), .int (c)] dV := by
  by_cases ha : zgr a
  rotate_left
  · exact duo_x 1 (by decide) hI (hp_sort_1 l g S a b c 9 (by decide) _ (cx_B_sort_row l hs g S a b c ha)) _ dV_x (fun S1 h1 => ct_M_sort_row l g S1 a b c ha)
  obtain ⟨k, hk, rfl⟩ := zgr_nI ha
  obtain ⟨n, hn, hc, hc2, he⟩ := hI.1 k hk
  by_cases ho0 : zgo c
  rotate_left
  · exact duo_x 2 (by decide) hI (hp_sort_2 l g S (nI k) b c 9 (by decide) _ (cx_B_sort_order l hs g S k hk b c ho0)) _ dV_x (fun S1 h1 => ct_M_sort_order l g S1 k hk b c ho0)
  obtain ⟨od, ho, rfl⟩ := zgo_nI ho0
  by_cases hb : zgB 6 b
  rotate_left
  · exact duo_x 2 (by decide) hI (hp_sort_2 l g S (nI k) b (nI od) 9 (by decide) _ (cx_B_sort_way l hs g S k od hk ho b hb)) _ dV_x (fun S1 h1 => ct_M_sort_way l g S1 k od hk ho b hb)
  obtain ⟨wy, hwy, rfl⟩ := zgB_nI (by omega) hb
  by_cases h6 : wy = 6 → od = 0 ∨ od = 1 ∨ od = 2 ∨ od = 5
  rotate_left
  · have e6 : wy = 6 := by omega
    subst e6
    exact duo_x 2 (by decide) hI (hp_sort_2 l g S (nI k) (nI 6) (nI od) 9 (by decide) _ (cx_B_sort_six l hs g S k od hk ho (by omega))) _ dV_x (fun S1 h1 => ct_M_sort_six l g S1 k od hk ho (by omega))
  refine ⟨0, _, by decide, hp_sort_0 l g S (nI k) (nI wy) (nI od) 30 (by decide) (fun S' => ∃ f', yU (sF (yz S k f') (2 + k) 2 (nI n)) S' ∧ zs f' 0 n = zt (zq od (zun wy)) (zs (ye S k) 0 n)) ((ct_B_sort l g S k wy od n hk (by omega) ho h6 hn hc hI.2.1).mono (fun v S' q => by obtain ⟨f', q1, q2, q3⟩ := q; rw [sF_same (show gF (yz S k f') 0 6 = nI 1 from hI.2.2), ← row_same hc] at q2; exact ⟨q1, f', q2, q3⟩)), fun S1 h1 => ?_⟩
  obtain ⟨f', hA0, hf'⟩ := h1
  have hA := hA0.two
  have hw := wA hk hA
  refine ⟨6, by decide, (ct_M_sort l g S1 k n hk hn (by rw [hw.2]; exact hc2) wy od (by omega) ho h6).mono (fun v S2 q => ?_)⟩
  obtain ⟨f, K, T, rfl, rfl, g0, g1, g2⟩ := q
  rw [hw.1, ← zs_eq he, ← hf'] at g0
  have hz := fin_a (N := n) (m := n) hI hk hn hA hn g2 g1 (fun j hj => (zs_pt g0 hj).symm)
  exact ⟨rfl, hz.1, hz.2.1⟩
set_option maxHeartbeats 4000000 in
set_option maxRecDepth 100000 in
theorem duo_single (l : Launch) (hs : l.stackTraces = false) (g : YG) (S : YS) (hI : yInv S) (a : Int32) (b : Int32) : yDuo l g S mn_L_single mb_L_single 5 [(0, 10, 13, 13), (0, 10, 17, 21), (0, 10, 21, 15)] [.ref (g.ad (0)), .int (a), .int (b), .ref (g.ad (31))] mn_M_single mb_M_single 6 (some .int) [.ref (g.ad (24)), .int (a), .int (b)] dI := by
  by_cases ha : zgr a
  rotate_left
  · exact duo_x 1 (by decide) hI (hp_single_1 l g S a b 9 (by decide) _ (cx_B_single_row l hs g S a b ha)) _ (dI_x (by decide)) (fun S1 h1 => ct_M_single_row l g S1 a b ha)
  obtain ⟨k, hk, rfl⟩ := zgr_nI ha
  obtain ⟨n, hn, hc, hc2, he⟩ := hI.1 k hk
  by_cases ho0 : zgo b
  rotate_left
  · exact duo_x 2 (by decide) hI (hp_single_2 l g S (nI k) b 9 (by decide) _ (cx_B_single_order l hs g S k hk b ho0)) _ (dI_x (by decide)) (fun S1 h1 => ct_M_single_order l g S1 k hk b ho0)
  obtain ⟨od, ho, rfl⟩ := zgo_nI ho0
  by_cases hz : zo (zq od false) (zs (ye S k) 0 n)
  rotate_left
  · exact duo_x 3 (by decide) hI (hp_single_3 l g S (nI k) (nI od) 9 (by decide) _ (cx_B_single_state l hs g S k n hk hn hc od ho hz)) _ (dI_x (by decide)) (fun S1 h1 => ct_M_single_state l g S1 k n hk hn (by rw [h1.two.n27]; exact hc2) od ho (by rw [h1.two.ze, ← zs_eq he]; exact hz))
  refine ⟨0, _, by decide, hp_single_0 l g S (nI k) (nI od) 7 (by decide) (fun b0 S' => ∃ (f' : Nat → Int64 × Int32) (m : Nat), b0 = nI m ∧ yU (sF (yz S k f') (2 + k) 2 (nI m)) S' ∧ m ≤ n ∧ zs f' 0 m = zsl (zq od false) (ye S k) n) ((ct_B_single l g S k n hk hn hc od ho hz).mono (fun v S' q => by obtain ⟨f', m, q1, q2, q3, q4⟩ := q; exact ⟨_, q1, f', m, rfl, q2, q3, q4⟩)), fun S1 h1 => ?_⟩
  obtain ⟨b0, S0, ⟨f', m, rfl, hA0, hm, hf'⟩, hS1⟩ := h1
  have hA : yU2 (sF (yz S k f') (2 + k) 2 (nI m)) S1 := by rw [hS1]; exact hA0.out _
  have hout : gL S1 31 0 = Int32.toInt64 (nI m) := by rw [hS1]; exact out_0 S0 _
  have hw := wA hk hA
  refine ⟨4, by decide, (ct_M_single l g S1 k n hk hn (by rw [hw.2]; exact hc2) od ho (by rw [hw.1, ← zs_eq he]; exact hz)).mono (fun v S2 q => ?_)⟩
  obtain ⟨m2, K, T, rfl, rfl, g0, g1, g2⟩ := q
  rw [hw.1, ← zsl_congr n he, ← hf'] at g1
  have em : m2 = m := by have z := congrArg List.length g1; rw [zs_len, zs_len] at z; exact z
  subst em
  have hzz := fin_b (N := n) hI hk (by omega) hA hn g2 (fun t ht => (zs_pt g1 ht).symm)
  exact ⟨⟨_, rfl, fun _ => hout⟩, hzz⟩
set_option maxHeartbeats 4000000 in
set_option maxRecDepth 100000 in
theorem duo_front (l : Launch) (hs : l.stackTraces = false) (g : YG) (S : YS) (hI : yInv S) (a : Int32) (b : Int32) (c : Int32) : yDuo l g S mn_L_front mb_L_front 5 [(0, 7, 10, 13), (0, 7, 14, 21)] [.ref (g.ad (0)), .int (a), .int (b), .int (c)] mn_M_front mb_M_front 8 none [.ref (g.ad (24)), .int (a), .int (b), .int (c)] dV := by
  by_cases ha : zgr a
  rotate_left
  · exact duo_x 1 (by decide) hI (hp_front_1 l g S a b c 9 (by decide) _ (cx_B_front_row l hs g S a b c ha)) _ dV_x (fun S1 h1 => ct_M_front_row l g S1 a b c ha)
  obtain ⟨k, hk, rfl⟩ := zgr_nI ha
  obtain ⟨n, hn, hc, hc2, he⟩ := hI.1 k hk
  by_cases ho0 : zgo b
  rotate_left
  · exact duo_x 2 (by decide) hI (hp_front_2 l g S (nI k) b c 9 (by decide) _ (cx_B_front_order l hs g S k hk b c ho0)) _ dV_x (fun S1 h1 => ct_M_front_order l g S1 k hk b c ho0)
  obtain ⟨od, ho, rfl⟩ := zgo_nI ho0
  by_cases hb : zgB n c
  rotate_left
  · exact duo_x 2 (by decide) hI (hp_front_2 l g S (nI k) (nI od) c 9 (by decide) _ (cx_B_front_k l hs g S k n hk hn hc od ho c hb)) _ dV_x (fun S1 h1 => ct_M_front_k l g S1 k n hk hn (by rw [h1.two.n27]; exact hc2) od ho c hb)
  obtain ⟨m, hm, rfl⟩ := zgB_nI (by omega) hb
  refine ⟨0, _, by decide, hp_front_0 l g S (nI k) (nI od) (nI m) 7 (by decide) (fun S' => ∃ f', yU (sF (yz S k f') (2 + k) 2 (nI n)) S' ∧ zs f' 0 n = (zs (zix od (ye S k) n) 0 m).map (ye S k) ++ (zuf (zix od (ye S k) n) m n).map (ye S k)) ((ct_B_front l g S k n hk hn hc od m ho hm).mono (fun v S' q => by obtain ⟨f', q1, q2, q3⟩ := q; exact ⟨q1, f', q2, q3⟩)), fun S1 h1 => ?_⟩
  obtain ⟨f', hA0, hf'⟩ := h1
  have hA := hA0.two
  have hw := wA hk hA
  refine ⟨4, by decide, (ct_M_front l g S1 k n hk hn (by rw [hw.2]; exact hc2) od m ho hm).mono (fun v S2 q => ?_)⟩
  obtain ⟨f, K, T, rfl, rfl, g0, g1, g2⟩ := q
  rw [hw.1] at g0
  have e0 : (zs (zix od (ze4 S k) n) 0 m).map (ze4 S k) ++ (zuf (zix od (ze4 S k) n) m n).map (ze4 S k) = (zs (zix od (ye S k) n) 0 m).map (ye S k) ++ (zuf (zix od (ye S k) n) m n).map (ye S k) := by
    rw [← zix_congr he]
    have hlt : ∀ x ∈ zs (zix od (ye S k) n) 0 m, x < n := fun x hx => by
      obtain ⟨j, q1, q2⟩ := zs_mem.mp hx
      exact List.mem_range.mp ((zix_perm od (ye S k) n).mem_iff.mp (zs_mem.mpr ⟨j, by omega, q2⟩))
    rw [List.map_congr_left (fun x hx => (he x (hlt x hx)).symm), List.map_congr_left (fun x hx => (he x (zuf_mem hx)).symm)]
  rw [e0, ← hf'] at g0
  have hz := fin_a (N := n) (m := n) hI hk hn hA hn g2 g1 (fun j hj => (zs_pt g0 hj).symm)
  exact ⟨rfl, hz.1, hz.2.1⟩
set_option maxHeartbeats 4000000 in
set_option maxRecDepth 100000 in
theorem duo_merge (l : Launch) (hs : l.stackTraces = false) (g : YG) (S : YS) (hI : yInv S) (a : Int32) (b : Int32) (c : Int32) (d : Int32) : yDuo l g S mn_L_merge mb_L_merge 7 [(0, 14, 17, 13), (0, 14, 21, 21), (0, 14, 25, 15)] [.ref (g.ad (0)), .int (a), .int (b), .int (c), .int (d), .ref (g.ad (31))] mn_M_merge mb_M_merge 5 (some .int) [.ref (g.ad (24)), .int (a), .int (b), .int (c), .int (d)] dI := by
  by_cases ha : zgr a
  rotate_left
  · exact duo_x 1 (by decide) hI (hp_merge_1 l g S a b c d 9 (by decide) _ (cx_B_merge_row l hs g S a b c d ha)) _ (dI_x (by decide)) (fun S1 h1 => ct_M_merge_row l g S1 a b c d ha)
  obtain ⟨k, hk, rfl⟩ := zgr_nI ha
  obtain ⟨n, hn, hc, hc2, he⟩ := hI.1 k hk
  by_cases hb : zgr b
  rotate_left
  · exact duo_x 1 (by decide) hI (hp_merge_1 l g S (nI k) b c d 9 (by decide) _ (cx_B_merge_b l hs g S k hk b c d hb)) _ (dI_x (by decide)) (fun S1 h1 => ct_M_merge_b l g S1 k hk b c d hb)
  obtain ⟨q, hq, rfl⟩ := zgr_nI hb
  obtain ⟨m, hm, hd, hd2, he2⟩ := hI.1 q hq
  by_cases hcc : zgr c
  rotate_left
  · exact duo_x 1 (by decide) hI (hp_merge_1 l g S (nI k) (nI q) c d 9 (by decide) _ (cx_B_merge_to l hs g S k q hk hq c d hcc)) _ (dI_x (by decide)) (fun S1 h1 => ct_M_merge_to l g S1 k q hk hq c d hcc)
  obtain ⟨p, hp, rfl⟩ := zgr_nI hcc
  by_cases ho0 : zgo d
  rotate_left
  · exact duo_x 2 (by decide) hI (hp_merge_2 l g S (nI k) (nI q) (nI p) d 9 (by decide) _ (cx_B_merge_order l hs g S k q p hk hq hp d ho0)) _ (dI_x (by decide)) (fun S1 h1 => ct_M_merge_order l g S1 k q p hk hq hp d ho0)
  obtain ⟨od, ho, rfl⟩ := zgo_nI ho0
  by_cases hgood : zo (zq od false) (zs (ze4 S k) 0 n) ∧ zo (zq od false) (zs (ze4 S q) 0 m) ∧ n + m ≤ 1024
  rotate_left
  · refine duo_x 3 (by decide) hI (hp_merge_3 l g S (nI k) (nI q) (nI p) (nI od) 9 (by decide) _ ?_) _ (dI_x (by decide)) (fun S1 h1 => ct_M_merge_state l g S1 k q p n m hk hq hp hn hm (by rw [h1.two.n27]; exact hc2) (by rw [h1.two.n27]; exact hd2) od ho (by rw [h1.two.ze, h1.two.ze]; exact hgood))
    rw [← zs_eq he, ← zs_eq he2] at hgood
    by_cases s1 : zo (zq od false) (zs (ye S k) 0 n)
    · by_cases s2 : zo (zq od false) (zs (ye S q) 0 m)
      · exact cx_B_merge_room l hs g S k q p n m hk hq hp hn hm hc hd od ho s1 s2 (fun z => hgood ⟨s1, s2, z⟩)
      · exact cx_B_merge_second l hs g S k q p n m hk hq hp hn hm hc hd od ho s1 s2
    · exact cx_B_merge_first l hs g S k q p n m hk hq hp hn hm hc hd od ho s1
  obtain ⟨s1, s2, hnm⟩ := hgood
  refine ⟨0, _, by decide, hp_merge_0 l g S (nI k) (nI q) (nI p) (nI od) 7 (by decide) (fun b0 S' => ∃ f', b0 = nI (n + m) ∧ yU (sF (yz S p f') (2 + p) 2 (nI (n + m))) S' ∧ zs f' 0 (n + m) = zt (zq od false) (zs (ye S k) 0 n ++ zs (ye S q) 0 m)) ((ct_B_merge l g S k q p n m hk hq hp hn hm hc hd hnm od ho (by rw [zs_eq he]; exact s1) (by rw [zs_eq he2]; exact s2)).mono (fun v S' q => by obtain ⟨f', q1, q2, q3⟩ := q; exact ⟨_, q1, f', rfl, q2, q3⟩)), fun S1 h1 => ?_⟩
  obtain ⟨b0, S0, ⟨f', rfl, hA0, hf'⟩, hS1⟩ := h1
  have hA : yU2 (sF (yz S p f') (2 + p) 2 (nI (n + m))) S1 := by rw [hS1]; exact hA0.out _
  have hout : gL S1 31 0 = Int32.toInt64 (nI (n + m)) := by rw [hS1]; exact out_0 S0 _
  have hw := wA hp hA
  refine ⟨6, by decide, (ct_M_merge l g S1 k q p n m hk hq hp hn hm (by rw [hw.2]; exact hc2) (by rw [hw.2]; exact hd2) hnm od ho (by rw [hw.1]; exact s1) (by rw [hw.1]; exact s2)).mono (fun v S2 qq => ?_)⟩
  obtain ⟨f, K, T, rfl, rfl, g0, g1, g2⟩ := qq
  rw [hw.1, hw.1, ← zs_eq he, ← zs_eq he2, ← hf'] at g0
  have hz := fin_a (N := n + m) (m := n + m) hI hp hnm hA hnm g2 g1 (fun j hj => (zs_pt g0 hj).symm)
  exact ⟨⟨_, rfl, fun _ => by rw [hz.2.2]; exact hout⟩, hz.1, hz.2.1⟩
