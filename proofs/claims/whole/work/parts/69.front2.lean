/-! BENCH: front -/
theorem dc_B_front_0 : decode mb_B_front 0 = .ok (.aload_n 0, 1) := by decide +kernel
theorem dc_B_front_1 : decode mb_B_front 1 = .ok (.iload_n 1, 1) := by decide +kernel
theorem dc_B_front_2 : decode mb_B_front 2 = .ok (.invokevirtual 49, 3) := by decide +kernel
theorem dc_B_front_5 : decode mb_B_front 5 = .ok (.astore 4, 2) := by decide +kernel
theorem dc_B_front_7 : decode mb_B_front 7 = .ok (.aload_n 0, 1) := by decide +kernel
theorem dc_B_front_8 : decode mb_B_front 8 = .ok (.iload_n 2, 1) := by decide +kernel
theorem dc_B_front_9 : decode mb_B_front 9 = .ok (.invokevirtual 159, 3) := by decide +kernel
theorem dc_B_front_12 : decode mb_B_front 12 = .ok (.iload_n 3, 1) := by decide +kernel
theorem dc_B_front_13 : decode mb_B_front 13 = .ok (.ifCond .lt 12, 3) := by decide +kernel
theorem dc_B_front_16 : decode mb_B_front 16 = .ok (.iload_n 3, 1) := by decide +kernel
theorem dc_B_front_17 : decode mb_B_front 17 = .ok (.aload 4, 2) := by decide +kernel
theorem dc_B_front_19 : decode mb_B_front 19 = .ok (.getfield 53, 3) := by decide +kernel
theorem dc_B_front_22 : decode mb_B_front 22 = .ok (.if_icmp .le 13, 3) := by decide +kernel
theorem dc_B_front_25 : decode mb_B_front 25 = .ok (.new 68, 3) := by decide +kernel
theorem dc_B_front_28 : decode mb_B_front 28 = .ok (.dup, 1) := by decide +kernel
theorem dc_B_front_29 : decode mb_B_front 29 = .ok (.ldc 90, 2) := by decide +kernel
theorem dc_B_front_31 : decode mb_B_front 31 = .ok (.invokespecial 72, 3) := by decide +kernel
theorem dc_B_front_34 : decode mb_B_front 34 = .ok (.athrow, 1) := by decide +kernel
theorem dc_B_front_35 : decode mb_B_front 35 = .ok (.aload_n 0, 1) := by decide +kernel
theorem dc_B_front_36 : decode mb_B_front 36 = .ok (.getfield 16, 3) := by decide +kernel
theorem dc_B_front_39 : decode mb_B_front 39 = .ok (.aload 4, 2) := by decide +kernel
theorem dc_B_front_41 : decode mb_B_front 41 = .ok (.invokevirtual 99, 3) := by decide +kernel
theorem dc_B_front_44 : decode mb_B_front 44 = .ok (.aload_n 0, 1) := by decide +kernel
theorem dc_B_front_45 : decode mb_B_front 45 = .ok (.getfield 16, 3) := by decide +kernel
theorem dc_B_front_48 : decode mb_B_front 48 = .ok (.invokevirtual 75, 3) := by decide +kernel
theorem dc_B_front_51 : decode mb_B_front 51 = .ok (.aload_n 0, 1) := by decide +kernel
theorem dc_B_front_52 : decode mb_B_front 52 = .ok (.getfield 16, 3) := by decide +kernel
theorem dc_B_front_55 : decode mb_B_front 55 = .ok (.aload_n 0, 1) := by decide +kernel
theorem dc_B_front_56 : decode mb_B_front 56 = .ok (.getfield 20, 3) := by decide +kernel
theorem dc_B_front_59 : decode mb_B_front 59 = .ok (.aload_n 0, 1) := by decide +kernel
theorem dc_B_front_60 : decode mb_B_front 60 = .ok (.getfield 26, 3) := by decide +kernel
theorem dc_B_front_63 : decode mb_B_front 63 = .ok (.invokestatic 142, 3) := by decide +kernel
theorem dc_B_front_66 : decode mb_B_front 66 = .ok (.pop, 1) := by decide +kernel
theorem dc_B_front_67 : decode mb_B_front 67 = .ok (.aload_n 0, 1) := by decide +kernel
theorem dc_B_front_68 : decode mb_B_front 68 = .ok (.aload 4, 2) := by decide +kernel
theorem dc_B_front_70 : decode mb_B_front 70 = .ok (.iload_n 3, 1) := by decide +kernel
theorem dc_B_front_71 : decode mb_B_front 71 = .ok (.invokevirtual 204, 3) := by decide +kernel
theorem dc_B_front_74 : decode mb_B_front 74 = .ok (.return_, 1) := by decide +kernel
theorem zi_map {α β : Type} (r : β → Int) (e : α → β) (x : α) : ∀ l : List α, zi r (e x) (l.map e) = (zi (fun y => r (e y)) x l).map e := by
  intro l
  induction l with
  | nil => rfl
  | cons y t ih =>
    show (if r (e x) < r (e y) then e x :: e y :: t.map e else e y :: zi r (e x) (t.map e)) = List.map e (if r (e x) < r (e y) then x :: y :: t else y :: zi (fun y => r (e y)) x t)
    split
    · rfl
    · rw [ih]; rfl
theorem zt_map {α β : Type} (r : β → Int) (e : α → β) (l : List α) : zt r (l.map e) = (zt (fun y => r (e y)) l).map e := by
  have k : ∀ (l acc : List α), (l.map e).foldl (fun acc x => zi r x acc) (acc.map e) = (l.foldl (fun acc x => zi (fun y => r (e y)) x acc) acc).map e := by
    intro l
    induction l with
    | nil => intro acc; rfl
    | cons x t ih =>
      intro acc
      show (t.map e).foldl (fun acc x => zi r x acc) (zi r (e x) (acc.map e)) = _
      rw [zi_map, ih]
      rfl
  exact k l []
/-- the places in order -/
def zix (od : Nat) (F : Nat → Int64 × Int32) (n : Nat) : Nat → Nat := fun i => (zt (fun j => zr od (F j).1) (List.range n)).getD i 0
theorem zix_zs (od : Nat) (F : Nat → Int64 × Int32) (n : Nat) : zs (zix od F n) 0 n = zt (fun j => zr od (F j).1) (List.range n) := by
  have hl : (zt (fun j => zr od (F j).1) (List.range n)).length = n := (zt_e _ _).len.trans List.length_range
  apply List.ext_getElem?
  intro i
  by_cases h : i < n
  · rw [zs_get _ _ h, Nat.zero_add]
    unfold zix
    rw [List.getD_eq_getElem?_getD, List.getElem?_eq_getElem (by omega)]
    rfl
  · rw [List.getElem?_eq_none (by rw [zs_len]; omega), List.getElem?_eq_none (by omega)]
theorem zix_perm (od : Nat) (F : Nat → Int64 × Int32) (n : Nat) : (zs (zix od F n) 0 n).Perm (List.range n) := by rw [zix_zs]; exact (zt_e _ _).to_perm
theorem zix_desk {od n : Nat} {F E f : Nat → Int64 × Int32} (hE : ∀ j, j < n → E j = ((F j).1, nI j)) (h : zs f 0 n = zt (zq od false) (zs E 0 n)) : ∀ i, i < n → f i = ((F (zix od F n i)).1, nI (zix od F n i)) := by
  intro i hi
  have e1 : zs E 0 n = (List.range n).map (fun j => ((F j).1, nI j)) := by
    unfold zs
    refine List.map_congr_left (fun j hj => ?_)
    rw [Nat.zero_add]
    exact hE j (List.mem_range.mp hj)
  rw [e1, zt_map, show (fun y => zq od false ((F y).1, nI y)) = (fun j => zr od (F j).1) from rfl, ← zix_zs] at h
  have h2 := congrArg (fun l => l[i]?) h
  simp only [List.getElem?_map] at h2
  rw [zs_get _ _ hi, zs_get _ _ hi, Nat.zero_add] at h2
  exact Option.some.inj h2
set_option maxHeartbeats 4000000 in
set_option maxRecDepth 100000 in
theorem ct_B_front (l : Launch) (g : YG) (S : YS) (k n : Nat) (hk : k < 4) (hn : n ≤ 1024) (hc : gF S (2 + k) 2 = nI n) (od m : Nat) (ho : od < 8) (hm2 : m ≤ n) : yC l mn_B_front mb_B_front 5 none 7 g [.ref (g.ad (0)), .int (nI (k)), .int (nI (od)), .int (nI (m))] S (fun v S' => ∃ f', v = none ∧ yU (sF (yz S k f') (2 + k) 2 (nI n)) S' ∧ zs f' 0 n = (zs (zix od (ye S k) n) 0 m).map (ye S k) ++ (zuf (zix od (ye S k) n) m n).map (ye S k)) := by
  refine yC_of (by decide) (Nat.le_of_ble_eq_true rfl) ?_
  intro o hl hg hB0 hE
  subst hl
  subst hg
  have hB : yB o mb_B_front "OrderBench" := hB0
  have hm := hE.1
  show yW o (S) 0 [(0, .ref (o.G.ad (0))), (1, .int (nI (k))), (2, .int (nI (od))), (3, .int (nI (m)))] []
  have hk6 : k < 6 := by omega
  refine y_aload_n (pc' := 1) hB dc_B_front_0 rfl rfl 0 rfl ?_
  refine y_iload_n (pc' := 2) hB dc_B_front_1 rfl rfl 1 rfl ?_
  refine y_callV (c := 0) (ci := 0) (As := [.int (nI (k))]) (rest := []) (pc' := 5) hB hE (ct_B_rowAt o.l o.G S k hk) mm_B_rowAt q_137 q_139 qs_0 (by decide) rfl rfl dc_B_front_2 rfl (by decide) rfl rfl (Nat.le_of_ble_eq_true rfl) (fun v S' hpost => ?_)
  obtain ⟨rfl, hSS⟩ := hpost
  rw [hSS]
  clear hSS S'
  show yW o (S) 5 [(0, .ref (o.G.ad (0))), (1, .int (nI (k))), (2, .int (nI (od))), (3, .int (nI (m)))] [.ref (o.G.ad (2 + k))]
  refine y_astore (pc' := 7) (lv' := [(4, .ref (o.G.ad (2 + k))), (0, .ref (o.G.ad (0))), (1, .int (nI (k))), (2, .int (nI (od))), (3, .int (nI (m)))]) hB hm dc_B_front_5 rfl (by decide) rfl ?_
  refine y_aload_n (pc' := 8) hB dc_B_front_7 rfl rfl 1 rfl ?_
  refine y_iload_n (pc' := 9) hB dc_B_front_8 rfl rfl 3 rfl ?_
  refine y_callV (c := 0) (ci := 0) (As := [.int (nI (od))]) (rest := []) (pc' := 12) hB hE (ct_B_judgeBy o.l o.G S od ho) mm_B_judgeBy q_540 q_542 qs_8 (by decide) rfl rfl dc_B_front_9 rfl (by decide) rfl rfl (Nat.le_of_ble_eq_true rfl) (fun v S' hpost => ?_)
  obtain ⟨rfl, hSS⟩ := hpost
  rw [hSS]
  clear hSS S'
  show yW o (yj S od false) 12 [(4, .ref (o.G.ad (2 + k))), (0, .ref (o.G.ad (0))), (1, .int (nI (k))), (2, .int (nI (od))), (3, .int (nI (m)))] []
  have hJ := yj_J S false ho
  refine y_iload_n (pc' := 13) hB dc_B_front_12 rfl rfl 4 rfl ?_
  refine n_if_lt (pc' := 16) (tg := 25) hB dc_B_front_13 rfl rfl (by omega) ?_
  refine y_iload_n (pc' := 17) hB dc_B_front_16 rfl rfl 4 rfl ?_
  refine y_aload (pc' := 19) hB dc_B_front_17 rfl 0 rfl ?_
  refine f_count (r := k) (pc' := 22) hB dc_B_front_19 rfl (by omega) q_53 ?_
  refine y_topi (y := nI (n)) ((yj_n S od false hk6).trans hc) ?_
  refine n_icmp_le (pc' := 25) (tg := 35) hB dc_B_front_22 rfl rfl (by omega) (by omega) (fun b2 => ?_) (fun b2 => ?_)
  · refine y_aload_n (pc' := 36) hB dc_B_front_35 rfl rfl 1 rfl ?_
    refine f_B_desk (pc' := 39) hB dc_B_front_36 rfl q_103 ?_
    refine y_aload (pc' := 41) hB dc_B_front_39 rfl 0 rfl ?_
    refine y_callV (c := 2 + 4) (ci := 1) (As := [.ref (o.G.ad (2 + k))]) (rest := []) (pc' := 44) hB hE (ct_R_becomeLike o.l o.G (yj S od false) 4 (by decide) k hk6 n hn ((yj_n S od false hk6).trans hc)) mm_R_becomeLike q_310 q_311 q_312 (by unfold yN; omega) (yk_row (by omega)).1 rfl dc_B_front_41 rfl (by decide) rfl rfl (Nat.le_of_ble_eq_true rfl) (fun v S' hpost => ?_)
    obtain ⟨rfl, hSS⟩ := hpost
    rw [hSS]
    clear hSS S'
    show yW o (yD (yj S od false) k n) 44 [(4, .ref (o.G.ad (2 + k))), (0, .ref (o.G.ad (0))), (1, .int (nI (k))), (2, .int (nI (od))), (3, .int (nI (m)))] []
    refine y_aload_n (pc' := 45) hB dc_B_front_44 rfl rfl 1 rfl ?_
    refine f_B_desk (pc' := 48) hB dc_B_front_45 rfl q_103 ?_
    refine y_callV (c := 2 + 4) (ci := 1) (As := []) (rest := []) (pc' := 51) hB hE (ct_R_numberTags o.l o.G (yD (yj S od false) k n) 4 (by decide) n hn (yD_n _ k n)) mm_R_numberTags q_254 q_255 q_256 (by unfold yN; omega) (yk_row (by omega)).1 rfl dc_B_front_48 rfl (by decide) rfl rfl (Nat.le_of_ble_eq_true rfl) (fun v S' hpost => ?_)
    obtain ⟨rfl, hSS⟩ := hpost
    rw [hSS]
    clear hSS S'
    show yW o (yz (yD (yj S od false) k n) 4 (znm (ye (yD (yj S od false) k n) 4) n)) 51 [(4, .ref (o.G.ad (2 + k))), (0, .ref (o.G.ad (0))), (1, .int (nI (k))), (2, .int (nI (od))), (3, .int (nI (m)))] []
    refine y_aload_n (pc' := 52) hB dc_B_front_51 rfl rfl 1 rfl ?_
    refine f_B_desk (pc' := 55) hB dc_B_front_52 rfl q_103 ?_
    refine y_aload_n (pc' := 56) hB dc_B_front_55 rfl rfl 1 rfl ?_
    refine f_B_spare (pc' := 59) hB dc_B_front_56 rfl q_104 ?_
    refine y_aload_n (pc' := 60) hB dc_B_front_59 rfl rfl 1 rfl ?_
    refine f_B_judge (pc' := 63) hB dc_B_front_60 rfl q_105 ?_
    refine y_callS (As := [.ref (o.G.ad (2 + 4)), .ref (o.G.ad (2 + 5)), .ref (o.G.ad (20))]) (rest := []) (pc' := 66) hB hE (ct_Me_arrange o.l o.G (yz (yD (yj S od false) k n) 4 (znm (ye (yD (yj S od false) k n) 4) n)) od false 0 (yJ_yz (yD_J hJ) 4 _) 4 (by decide) 5 (by decide) (by decide) n hn (yD_n (yj S od false) k n) (zdb n) (zdb_pow hn)) mm_Me_arrange q_439 q_440 dc_B_front_63 rfl (by decide) rfl rfl (Nat.le_of_ble_eq_true rfl) (fun v S' hpost => ?_)
    obtain ⟨f3, g3, c3, rfl, rfl, m1, m2, m3, m4⟩ := hpost
    rw [ye_yz] at m2
    show yW o (yq (yz (yz (yz (yD (yj S od false) k n) 4 (znm (ye (yD (yj S od false) k n) 4) n)) 4 f3) 5 g3) c3) 66 [(4, .ref (o.G.ad (2 + k))), (0, .ref (o.G.ad (0))), (1, .int (nI (k))), (2, .int (nI (od))), (3, .int (nI (m)))] [.int (nI (zj (zq od false) (zs (ye (yz (yD (yj S od false) k n) 4 (znm (ye (yD (yj S od false) k n) 4) n)) 4) 0 n)))]
    have hEd : ∀ j, j < n → znm (ye (yD (yj S od false) k n) 4) n j = (((ye S k) j).1, nI j) := fun j hj => by
      unfold znm
      rw [if_pos hj, yD_ye, pk_cpy_in (by omega) (by omega), Nat.zero_add, Nat.sub_zero]
      rfl
    have hz := zix_desk hEd (zt_of m1 m2)
    have e4 : ye (yq (yz (yz (yz (yD (yj S od false) k n) 4 (znm (ye (yD (yj S od false) k n) 4) n)) 4 f3) 5 g3) c3) 4 = f3 := by
      show ye (yz (yz (yz (yD (yj S od false) k n) 4 (znm (ye (yD (yj S od false) k n) 4) n)) 4 f3) 5 g3) 4 = f3
      rw [ye_yz_ne _ _ (by decide), ye_yz]
    have ek : ye (yq (yz (yz (yz (yD (yj S od false) k n) 4 (znm (ye (yD (yj S od false) k n) 4) n)) 4 f3) 5 g3) c3) k = (ye S k) := by
      show ye (yz (yz (yz (yD (yj S od false) k n) 4 (znm (ye (yD (yj S od false) k n) 4) n)) 4 f3) 5 g3) k = _
      rw [ye_yz_ne _ _ (by omega), ye_yz_ne _ _ (by omega), ye_yz_ne _ _ (by omega)]
      exact ((yD_U (yj S od false) k n).1 k hk).1
    have ec : gF (yq (yz (yz (yz (yD (yj S od false) k n) 4 (znm (ye (yD (yj S od false) k n) 4) n)) 4 f3) 5 g3) c3) (2 + k) 2 = nI n := by
      rw [gF_yq _ _ _ hk6, gF_yz, gF_yz, gF_yz, yD_c _ k n hk, yj_n _ _ _ hk6]
      exact hc
    have ed : gF (yq (yz (yz (yz (yD (yj S od false) k n) 4 (znm (ye (yD (yj S od false) k n) 4) n)) 4 f3) 5 g3) c3) (2 + 4) 2 = nI n := by
      rw [gF_yq _ _ _ (by decide), gF_yz, gF_yz, gF_yz]
      exact yD_n _ k n
    refine y_pop (pc' := 67) hB dc_B_front_66 rfl rfl ?_
    refine y_aload_n (pc' := 68) hB dc_B_front_67 rfl rfl 1 rfl ?_
    refine y_aload (pc' := 70) hB dc_B_front_68 rfl 0 rfl ?_
    refine y_iload_n (pc' := 71) hB dc_B_front_70 rfl rfl 4 rfl ?_
    refine y_callV (c := 0) (ci := 0) (As := [.ref (o.G.ad (2 + k)), .int (nI (m))]) (rest := []) (pc' := 74) hB hE (ct_B_bringToFront o.l o.G (yq (yz (yz (yz (yD (yj S od false) k n) 4 (znm (ye (yD (yj S od false) k n) 4) n)) 4 f3) 5 g3) c3) k n m hk hn hm2 ec ed (ye S k) ek (zix od (ye S k) n) (zix_perm od (ye S k) n) (by rw [e4]; exact hz)) mm_B_bringToFront q_619 q_621 qs_11 (by decide) rfl rfl dc_B_front_71 rfl (by decide) rfl rfl (Nat.le_of_ble_eq_true rfl) (fun v S' hpost => ?_)
    obtain ⟨f4, rfl, hU, h5⟩ := hpost
    show yW o (S') 74 [(4, .ref (o.G.ad (2 + k))), (0, .ref (o.G.ad (0))), (1, .int (nI (k))), (2, .int (nI (od))), (3, .int (nI (m)))] []
    refine y_vret hB hE dc_B_front_74 ⟨f4, rfl, yU.tr (yU.F (yU.z ?_ hk f4) _ _ _) hU, h5⟩
    exact ((((yU_yj S od false).tr (yD_U _ k n)).tr (yU_yz _ (Or.inl rfl) _)).tr (yU_yz _ (Or.inl rfl) f3)).tr ((yU_yz _ (Or.inr rfl) g3).tr (yU_yq _ _))
  · omega
