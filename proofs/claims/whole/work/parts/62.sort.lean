/-! BENCH: sort -/
theorem dc_B_sort_0 : decode mb_B_sort 0 = .ok (.aload_n 0, 1) := by decide +kernel
theorem dc_B_sort_1 : decode mb_B_sort 1 = .ok (.iload_n 1, 1) := by decide +kernel
theorem dc_B_sort_2 : decode mb_B_sort 2 = .ok (.invokevirtual 49, 3) := by decide +kernel
theorem dc_B_sort_5 : decode mb_B_sort 5 = .ok (.astore 4, 2) := by decide +kernel
theorem dc_B_sort_7 : decode mb_B_sort 7 = .ok (.iload_n 3, 1) := by decide +kernel
theorem dc_B_sort_8 : decode mb_B_sort 8 = .ok (.invokestatic 106, 3) := by decide +kernel
theorem dc_B_sort_11 : decode mb_B_sort 11 = .ok (.iload_n 2, 1) := by decide +kernel
theorem dc_B_sort_12 : decode mb_B_sort 12 = .ok (.iload_n 3, 1) := by decide +kernel
theorem dc_B_sort_13 : decode mb_B_sort 13 = .ok (.invokestatic 110, 3) := by decide +kernel
theorem dc_B_sort_16 : decode mb_B_sort 16 = .ok (.aload_n 0, 1) := by decide +kernel
theorem dc_B_sort_17 : decode mb_B_sort 17 = .ok (.getfield 26, 3) := by decide +kernel
theorem dc_B_sort_20 : decode mb_B_sort 20 = .ok (.iload_n 3, 1) := by decide +kernel
theorem dc_B_sort_21 : decode mb_B_sort 21 = .ok (.iload_n 2, 1) := by decide +kernel
theorem dc_B_sort_22 : decode mb_B_sort 22 = .ok (.invokestatic 113, 3) := by decide +kernel
theorem dc_B_sort_25 : decode mb_B_sort 25 = .ok (.ifCond .ne 7, 3) := by decide +kernel
theorem dc_B_sort_28 : decode mb_B_sort 28 = .ok (.iconst 1, 1) := by decide +kernel
theorem dc_B_sort_29 : decode mb_B_sort 29 = .ok (.goto 4, 3) := by decide +kernel
theorem dc_B_sort_32 : decode mb_B_sort 32 = .ok (.iconst 0, 1) := by decide +kernel
theorem dc_B_sort_33 : decode mb_B_sort 33 = .ok (.invokevirtual 117, 3) := by decide +kernel
theorem dc_B_sort_36 : decode mb_B_sort 36 = .ok (.iload_n 2, 1) := by decide +kernel
theorem dc_B_sort_37 : decode mb_B_sort 37 = .ok (.tableswitch 145 0 5 #[39, 58, 76, 104, 116, 133], 39) := by decide +kernel
theorem dc_B_sort_76 : decode mb_B_sort 76 = .ok (.aload 4, 2) := by decide +kernel
theorem dc_B_sort_78 : decode mb_B_sort 78 = .ok (.aload_n 0, 1) := by decide +kernel
theorem dc_B_sort_79 : decode mb_B_sort 79 = .ok (.getfield 26, 3) := by decide +kernel
theorem dc_B_sort_82 : decode mb_B_sort 82 = .ok (.iconst 0, 1) := by decide +kernel
theorem dc_B_sort_83 : decode mb_B_sort 83 = .ok (.iconst 0, 1) := by decide +kernel
theorem dc_B_sort_84 : decode mb_B_sort 84 = .ok (.aload 4, 2) := by decide +kernel
theorem dc_B_sort_86 : decode mb_B_sort 86 = .ok (.getfield 53, 3) := by decide +kernel
theorem dc_B_sort_89 : decode mb_B_sort 89 = .ok (.invokestatic 121, 3) := by decide +kernel
theorem dc_B_sort_92 : decode mb_B_sort 92 = .ok (.goto 104, 3) := by decide +kernel
theorem dc_B_sort_95 : decode mb_B_sort 95 = .ok (.aload 4, 2) := by decide +kernel
theorem dc_B_sort_97 : decode mb_B_sort 97 = .ok (.aload_n 0, 1) := by decide +kernel
theorem dc_B_sort_98 : decode mb_B_sort 98 = .ok (.getfield 26, 3) := by decide +kernel
theorem dc_B_sort_101 : decode mb_B_sort 101 = .ok (.iconst 0, 1) := by decide +kernel
theorem dc_B_sort_102 : decode mb_B_sort 102 = .ok (.aload 4, 2) := by decide +kernel
theorem dc_B_sort_104 : decode mb_B_sort 104 = .ok (.getfield 53, 3) := by decide +kernel
theorem dc_B_sort_107 : decode mb_B_sort 107 = .ok (.invokestatic 127, 3) := by decide +kernel
theorem dc_B_sort_110 : decode mb_B_sort 110 = .ok (.goto 86, 3) := by decide +kernel
theorem dc_B_sort_113 : decode mb_B_sort 113 = .ok (.aload 4, 2) := by decide +kernel
theorem dc_B_sort_115 : decode mb_B_sort 115 = .ok (.aload_n 0, 1) := by decide +kernel
theorem dc_B_sort_116 : decode mb_B_sort 116 = .ok (.getfield 26, 3) := by decide +kernel
theorem dc_B_sort_119 : decode mb_B_sort 119 = .ok (.iconst 0, 1) := by decide +kernel
theorem dc_B_sort_120 : decode mb_B_sort 120 = .ok (.aload 4, 2) := by decide +kernel
theorem dc_B_sort_122 : decode mb_B_sort 122 = .ok (.getfield 53, 3) := by decide +kernel
theorem dc_B_sort_125 : decode mb_B_sort 125 = .ok (.iconst 2, 1) := by decide +kernel
theorem dc_B_sort_126 : decode mb_B_sort 126 = .ok (.aload 4, 2) := by decide +kernel
theorem dc_B_sort_128 : decode mb_B_sort 128 = .ok (.getfield 53, 3) := by decide +kernel
theorem dc_B_sort_131 : decode mb_B_sort 131 = .ok (.invokestatic 132, 3) := by decide +kernel
theorem dc_B_sort_134 : decode mb_B_sort 134 = .ok (.imul, 1) := by decide +kernel
theorem dc_B_sort_135 : decode mb_B_sort 135 = .ok (.invokestatic 136, 3) := by decide +kernel
theorem dc_B_sort_138 : decode mb_B_sort 138 = .ok (.goto 58, 3) := by decide +kernel
theorem dc_B_sort_141 : decode mb_B_sort 141 = .ok (.aload 4, 2) := by decide +kernel
theorem dc_B_sort_143 : decode mb_B_sort 143 = .ok (.aload_n 0, 1) := by decide +kernel
theorem dc_B_sort_144 : decode mb_B_sort 144 = .ok (.getfield 26, 3) := by decide +kernel
theorem dc_B_sort_147 : decode mb_B_sort 147 = .ok (.invokestatic 139, 3) := by decide +kernel
theorem dc_B_sort_150 : decode mb_B_sort 150 = .ok (.goto 46, 3) := by decide +kernel
theorem dc_B_sort_153 : decode mb_B_sort 153 = .ok (.aload 4, 2) := by decide +kernel
theorem dc_B_sort_155 : decode mb_B_sort 155 = .ok (.aload_n 0, 1) := by decide +kernel
theorem dc_B_sort_156 : decode mb_B_sort 156 = .ok (.getfield 20, 3) := by decide +kernel
theorem dc_B_sort_159 : decode mb_B_sort 159 = .ok (.aload_n 0, 1) := by decide +kernel
theorem dc_B_sort_160 : decode mb_B_sort 160 = .ok (.getfield 26, 3) := by decide +kernel
theorem dc_B_sort_163 : decode mb_B_sort 163 = .ok (.invokestatic 142, 3) := by decide +kernel
theorem dc_B_sort_166 : decode mb_B_sort 166 = .ok (.pop, 1) := by decide +kernel
theorem dc_B_sort_167 : decode mb_B_sort 167 = .ok (.goto 29, 3) := by decide +kernel
theorem dc_B_sort_170 : decode mb_B_sort 170 = .ok (.aload_n 0, 1) := by decide +kernel
theorem dc_B_sort_171 : decode mb_B_sort 171 = .ok (.getfield 35, 3) := by decide +kernel
theorem dc_B_sort_174 : decode mb_B_sort 174 = .ok (.aload 4, 2) := by decide +kernel
theorem dc_B_sort_176 : decode mb_B_sort 176 = .ok (.invokevirtual 147, 3) := by decide +kernel
theorem dc_B_sort_179 : decode mb_B_sort 179 = .ok (.goto 17, 3) := by decide +kernel
theorem dc_B_sort_182 : decode mb_B_sort 182 = .ok (.aload 4, 2) := by decide +kernel
theorem dc_B_sort_184 : decode mb_B_sort 184 = .ok (.aload_n 0, 1) := by decide +kernel
theorem dc_B_sort_185 : decode mb_B_sort 185 = .ok (.getfield 20, 3) := by decide +kernel
theorem dc_B_sort_188 : decode mb_B_sort 188 = .ok (.aload_n 0, 1) := by decide +kernel
theorem dc_B_sort_189 : decode mb_B_sort 189 = .ok (.getfield 41, 3) := by decide +kernel
theorem dc_B_sort_192 : decode mb_B_sort 192 = .ok (.iload_n 3, 1) := by decide +kernel
theorem dc_B_sort_193 : decode mb_B_sort 193 = .ok (.invokestatic 149, 3) := by decide +kernel
theorem dc_B_sort_196 : decode mb_B_sort 196 = .ok (.aload_n 0, 1) := by decide +kernel
theorem dc_B_sort_197 : decode mb_B_sort 197 = .ok (.aload_n 0, 1) := by decide +kernel
theorem dc_B_sort_198 : decode mb_B_sort 198 = .ok (.getfield 26, 3) := by decide +kernel
theorem dc_B_sort_201 : decode mb_B_sort 201 = .ok (.getfield 152, 3) := by decide +kernel
theorem dc_B_sort_204 : decode mb_B_sort 204 = .ok (.iload_n 2, 1) := by decide +kernel
theorem dc_B_sort_205 : decode mb_B_sort 205 = .ok (.aload 4, 2) := by decide +kernel
theorem dc_B_sort_207 : decode mb_B_sort 207 = .ok (.getfield 53, 3) := by decide +kernel
theorem dc_B_sort_210 : decode mb_B_sort 210 = .ok (.invokestatic 155, 3) := by decide +kernel
theorem dc_B_sort_213 : decode mb_B_sort 213 = .ok (.if_icmp .gt 7, 3) := by decide +kernel
theorem dc_B_sort_216 : decode mb_B_sort 216 = .ok (.iconst 1, 1) := by decide +kernel
theorem dc_B_sort_217 : decode mb_B_sort 217 = .ok (.goto 4, 3) := by decide +kernel
theorem dc_B_sort_220 : decode mb_B_sort 220 = .ok (.iconst 0, 1) := by decide +kernel
theorem dc_B_sort_221 : decode mb_B_sort 221 = .ok (.putfield 45, 3) := by decide +kernel
theorem dc_B_sort_224 : decode mb_B_sort 224 = .ok (.return_, 1) := by decide +kernel
theorem zmc_lt {wy n : Nat} (hn : n ≤ 1024) : zmc wy n ≤ 1048576 := by
  have h1 : n * (n - 1) ≤ 1024 * 1024 := Nat.mul_le_mul hn (by omega)
  have h2 : n * n ≤ 1024 * 1024 := Nat.mul_le_mul hn hn
  have h3 : 8 * n * (zdb n + 2) ≤ 8192 * 12 := Nat.mul_le_mul (by omega) (by have := zdb_le n; omega)
  unfold zmc
  split
  · omega
  · split
    · exact h2
    · split
      · omega
      · omega
/-- the ways that may change the order of alike entries go by tags too -/
def zun (wy : Nat) : Bool := !decide (wy = 0 ∨ wy = 4 ∨ wy = 5 ∨ wy = 6)
theorem zt_un {od : Nat} {l m : List (Int64 × Int32)} (h : zo (zq od true) m) (k : m.Perm l) : m = zt (zq od true) l := zt_of h (ze.perm k (fun x _ y _ e => zf_inj e))
set_option maxHeartbeats 4000000 in
set_option maxRecDepth 100000 in
theorem ct_B_sort (l : Launch) (g : YG) (S : YS) (k wy od n : Nat) (hk : k < 4) (hw : wy < 7) (ho : od < 8) (h6 : wy = 6 → od = 0 ∨ od = 1 ∨ od = 2 ∨ od = 5) (hn : n ≤ 1024) (hc : gF S (2 + k) 2 = nI n) (hb0 : gI S 22 0 = nI 0) : yC l mn_B_sort mb_B_sort 5 none 30 g [.ref (g.ad (0)), .int (nI (k)), .int (nI (wy)), .int (nI (od))] S (fun v S' => ∃ f', v = none ∧ yU (sF (yz S k f') 0 6 (nI 1)) S' ∧ zs f' 0 n = zt (zq od (zun wy)) (zs (ye S k) 0 n)) := by
  refine yC_of (by decide) (Nat.le_of_ble_eq_true rfl) ?_
  intro o hl hg hB0 hE
  subst hl
  subst hg
  have hB : yB o mb_B_sort "OrderBench" := hB0
  have hm := hE.1
  show yW o (S) 0 [(0, .ref (o.G.ad (0))), (1, .int (nI (k))), (2, .int (nI (wy))), (3, .int (nI (od)))] []
  have hk6 : k < 6 := by omega
  have hdl := zdb_le n
  refine y_aload_n (pc' := 1) hB dc_B_sort_0 rfl rfl 0 rfl ?_
  refine y_iload_n (pc' := 2) hB dc_B_sort_1 rfl rfl 1 rfl ?_
  refine y_callV (c := 0) (ci := 0) (As := [.int (nI (k))]) (rest := []) (pc' := 5) hB hE (ct_B_rowAt o.l o.G S k hk) mm_B_rowAt q_137 q_139 qs_0 (by decide) rfl rfl dc_B_sort_2 rfl (by decide) rfl rfl (Nat.le_of_ble_eq_true rfl) (fun v S' hpost => ?_)
  obtain ⟨rfl, hSS⟩ := hpost
  rw [hSS]
  clear hSS S'
  show yW o (S) 5 [(0, .ref (o.G.ad (0))), (1, .int (nI (k))), (2, .int (nI (wy))), (3, .int (nI (od)))] [.ref (o.G.ad (2 + k))]
  refine y_astore (pc' := 7) (lv' := [(4, .ref (o.G.ad (2 + k))), (0, .ref (o.G.ad (0))), (1, .int (nI (k))), (2, .int (nI (wy))), (3, .int (nI (od)))]) hB hm dc_B_sort_5 rfl (by decide) rfl ?_
  refine y_iload_n (pc' := 8) hB dc_B_sort_7 rfl rfl 4 rfl ?_
  refine y_callS (As := [.int (nI (od))]) (rest := []) (pc' := 11) hB hE (ct_B_checkOrder o.l o.G S od ho) mm_B_checkOrder q_349 q_350 dc_B_sort_8 rfl (by decide) rfl rfl (Nat.le_of_ble_eq_true rfl) (fun v S' hpost => ?_)
  obtain ⟨rfl, hSS⟩ := hpost
  rw [hSS]
  clear hSS S'
  show yW o (S) 11 [(4, .ref (o.G.ad (2 + k))), (0, .ref (o.G.ad (0))), (1, .int (nI (k))), (2, .int (nI (wy))), (3, .int (nI (od)))] []
  refine y_iload_n (pc' := 12) hB dc_B_sort_11 rfl rfl 3 rfl ?_
  refine y_iload_n (pc' := 13) hB dc_B_sort_12 rfl rfl 4 rfl ?_
  refine y_callS (As := [.int (nI (wy)), .int (nI (od))]) (rest := []) (pc' := 16) hB hE (ct_B_checkWay o.l o.G S wy od hw ho h6) mm_B_checkWay q_353 q_354 dc_B_sort_13 rfl (by decide) rfl rfl (Nat.le_of_ble_eq_true rfl) (fun v S' hpost => ?_)
  obtain ⟨rfl, hSS⟩ := hpost
  rw [hSS]
  clear hSS S'
  show yW o (S) 16 [(4, .ref (o.G.ad (2 + k))), (0, .ref (o.G.ad (0))), (1, .int (nI (k))), (2, .int (nI (wy))), (3, .int (nI (od)))] []
  have fin : ∀ (T : YS) (f' : Nat → Int64 × Int32) (c1 : Nat), yJ T od (zun wy) c1 → yU (yz S k f') T → zs f' 0 n = zt (zq od (zun wy)) (zs (ye S k) 0 n) → c1 ≤ zmc wy n → yW o T 196 [(4, .ref (o.G.ad (2 + k))), (0, .ref (o.G.ad (0))), (1, .int (nI (k))), (2, .int (nI (wy))), (3, .int (nI (od)))] [] := by
    intro T f' c1 q1 q2 q3 q4
    have q5 := zmc_lt (wy := wy) hn
    refine y_aload_n (pc' := 197) hB dc_B_sort_196 rfl rfl 1 rfl ?_
    refine y_aload_n (pc' := 198) hB dc_B_sort_197 rfl rfl 1 rfl ?_
    refine f_B_judge (pc' := 201) hB dc_B_sort_198 rfl q_105 ?_
    refine f_J_compared (pc' := 204) hB dc_B_sort_201 rfl q_75 ?_
    refine y_topi (y := nI (c1)) q1.2.2.2 ?_
    refine y_iload_n (pc' := 205) hB dc_B_sort_204 rfl rfl 3 rfl ?_
    refine y_aload (pc' := 207) hB dc_B_sort_205 rfl 0 rfl ?_
    refine f_count (r := k) (pc' := 210) hB dc_B_sort_207 rfl (by omega) q_53 ?_
    refine y_topi (y := nI (n)) ((q2.1 k hk).2.trans hc) ?_
    refine y_callS (As := [.int (nI (wy)), .int (nI (n))]) (rest := [.int (nI (c1)), .ref (o.G.ad (0))]) (pc' := 213) hB hE (ct_B_mostComparisons o.l o.G T wy n hw hn) mm_B_mostComparisons q_530 q_531 dc_B_sort_210 rfl (by decide) rfl rfl (Nat.le_of_ble_eq_true rfl) (fun v S' hpost => ?_)
    obtain ⟨rfl, hSS⟩ := hpost
    rw [hSS]
    clear hSS S'
    show yW o (T) 213 [(4, .ref (o.G.ad (2 + k))), (0, .ref (o.G.ad (0))), (1, .int (nI (k))), (2, .int (nI (wy))), (3, .int (nI (od)))] [.int (nI (zmc wy n)), .int (nI (c1)), .ref (o.G.ad (0))]
    refine n_icmp_gt (pc' := 216) (tg := 220) hB dc_B_sort_213 rfl rfl (by omega) (by omega) (fun b1 => ?_) (fun b1 => ?_)
    · omega
    · refine y_iconst (v := nI 1) (pc' := 217) hB dc_B_sort_216 rfl rfl ?_
      refine y_goto (tg := 221) hB dc_B_sort_217 rfl ?_
      refine p_B_keptLimit (pc' := 224) hB dc_B_sort_221 rfl (Or.inr rfl) q_108 ?_
      exact y_vret hB hE dc_B_sort_224 ⟨f', rfl, q2.F 0 6 _, q3⟩
  have go : ∀ tg, tg = zun wy → yW o S 33 [(4, .ref (o.G.ad (2 + k))), (0, .ref (o.G.ad (0))), (1, .int (nI (k))), (2, .int (nI (wy))), (3, .int (nI (od)))] [.int (yb tg), .int (nI (od)), .ref (o.G.ad (20))] := by
    intro tg hg
    refine y_callV (c := 20) (ci := 2) (As := [.int (nI (od)), .int (yb tg)]) (rest := []) (pc' := 36) hB hE (ct_J_begin o.l o.G S od tg) mm_J_begin q_364 q_365 q_366 (by decide) rfl rfl dc_B_sort_33 rfl (by decide) rfl rfl (Nat.le_of_ble_eq_true rfl) (fun v S' hpost => ?_)
    obtain ⟨rfl, hSS⟩ := hpost
    rw [hSS]
    clear hSS S'
    show yW o (yj S od tg) 36 [(4, .ref (o.G.ad (2 + k))), (0, .ref (o.G.ad (0))), (1, .int (nI (k))), (2, .int (nI (wy))), (3, .int (nI (od)))] []
    refine y_iload_n (pc' := 37) hB dc_B_sort_36 rfl rfl 3 rfl ?_
    rcases (show wy = 0 ∨ wy = 1 ∨ wy = 2 ∨ wy = 3 ∨ wy = 4 ∨ wy = 5 ∨ wy = 6 by omega) with e | e | e | e | e | e | e
    · subst e
      obtain rfl : tg = false := hg
      refine y_tableIn (off := 39) (tg := 76) hB dc_B_sort_37 (by decide) (by decide) rfl rfl ?_
      have hJ := yj_J S false ho
      refine y_aload (pc' := 78) hB dc_B_sort_76 rfl 0 rfl ?_
      refine y_aload_n (pc' := 79) hB dc_B_sort_78 rfl rfl 1 rfl ?_
      refine f_B_judge (pc' := 82) hB dc_B_sort_79 rfl q_105 ?_
      refine y_iconst (v := nI 0) (pc' := 83) hB dc_B_sort_82 rfl rfl ?_
      refine y_iconst (v := nI 0) (pc' := 84) hB dc_B_sort_83 rfl rfl ?_
      refine y_aload (pc' := 86) hB dc_B_sort_84 rfl 0 rfl ?_
      refine f_count (r := k) (pc' := 89) hB dc_B_sort_86 rfl (by omega) q_53 ?_
      refine y_topi (y := nI (n)) ((yj_n S od false hk6).trans hc) ?_
      refine y_callS (As := [.ref (o.G.ad (2 + k)), .ref (o.G.ad (20)), .int (nI (0)), .int (nI (0)), .int (nI (n))]) (rest := []) (pc' := 92) hB hE (ct_In_arrange o.l o.G (yj S od false) od false 0 hJ k hk6 0 0 n (Nat.le_refl _) (by omega) hn (zo_zs.mpr (fun i j q1 q2 => by omega)) (fun i => i) (fun i _ _ => by rw [Nat.sub_zero]; exact Nat.lt_two_pow_self)) mm_In_arrange q_368 q_369 dc_B_sort_89 rfl (by decide) rfl rfl (Nat.le_of_ble_eq_true rfl) (fun v S' hpost => ?_)
      obtain ⟨f3, c3, rfl, rfl, m1, m2, m3, m4⟩ := hpost
      rw [Nat.zero_max, Nat.sub_zero] at m2 m3
      rw [Nat.sub_zero, Nat.zero_add] at m4
      show yW o (yq (yz (yj S od false) k f3) c3) 92 [(4, .ref (o.G.ad (2 + k))), (0, .ref (o.G.ad (0))), (1, .int (nI (k))), (2, .int (nI (0))), (3, .int (nI (od)))] []
      refine y_goto (tg := 196) hB dc_B_sort_92 rfl ?_
      exact fin _ f3 c3 (yJ_yq (yJ_yz hJ k f3) c3) (((yU_yj S od false).z hk f3).tr (yU_yq _ _)) (zt_of m2 m3) (Nat.le_trans m4 (zcost0' n))
    · subst e
      obtain rfl : tg = true := hg
      refine y_tableIn (off := 58) (tg := 95) hB dc_B_sort_37 (by decide) (by decide) rfl rfl ?_
      have hJ := yj_J S true ho
      refine y_aload (pc' := 97) hB dc_B_sort_95 rfl 0 rfl ?_
      refine y_aload_n (pc' := 98) hB dc_B_sort_97 rfl rfl 1 rfl ?_
      refine f_B_judge (pc' := 101) hB dc_B_sort_98 rfl q_105 ?_
      refine y_iconst (v := nI 0) (pc' := 102) hB dc_B_sort_101 rfl rfl ?_
      refine y_aload (pc' := 104) hB dc_B_sort_102 rfl 0 rfl ?_
      refine f_count (r := k) (pc' := 107) hB dc_B_sort_104 rfl (by omega) q_53 ?_
      refine y_topi (y := nI (n)) ((yj_n S od true hk6).trans hc) ?_
      refine y_callS (As := [.ref (o.G.ad (2 + k)), .ref (o.G.ad (20)), .int (nI (0)), .int (nI (n))]) (rest := []) (pc' := 110) hB hE (by have hz := ct_H_arrange o.l o.G (yj S od true) od true 0 hJ k hk6 0 n (by omega) (zdb n) (zdb_pow hn); rwa [Nat.zero_add] at hz) mm_H_arrange q_398 q_399 dc_B_sort_107 rfl (by decide) rfl rfl (Nat.le_of_ble_eq_true rfl) (fun v S' hpost => ?_)
      obtain ⟨f3, c3, rfl, rfl, m1, m2, m3, m4a, m4⟩ := hpost
      rw [Nat.zero_add] at m4
      show yW o (yq (yz (yj S od true) k f3) c3) 110 [(4, .ref (o.G.ad (2 + k))), (0, .ref (o.G.ad (0))), (1, .int (nI (k))), (2, .int (nI (1))), (3, .int (nI (od)))] []
      refine y_goto (tg := 196) hB dc_B_sort_110 rfl ?_
      exact fin _ f3 c3 (yJ_yq (yJ_yz hJ k f3) c3) (((yU_yj S od true).z hk f3).tr (yU_yq _ _)) (zt_un m3 m1) (Nat.le_trans m4 (zcost1 n _))
    · subst e
      obtain rfl : tg = true := hg
      refine y_tableIn (off := 76) (tg := 113) hB dc_B_sort_37 (by decide) (by decide) rfl rfl ?_
      have hJ := yj_J S true ho
      refine y_aload (pc' := 115) hB dc_B_sort_113 rfl 0 rfl ?_
      refine y_aload_n (pc' := 116) hB dc_B_sort_115 rfl rfl 1 rfl ?_
      refine f_B_judge (pc' := 119) hB dc_B_sort_116 rfl q_105 ?_
      refine y_iconst (v := nI 0) (pc' := 120) hB dc_B_sort_119 rfl rfl ?_
      refine y_aload (pc' := 122) hB dc_B_sort_120 rfl 0 rfl ?_
      refine f_count (r := k) (pc' := 125) hB dc_B_sort_122 rfl (by omega) q_53 ?_
      refine y_topi (y := nI (n)) ((yj_n S od true hk6).trans hc) ?_
      refine y_iconst (v := nI 2) (pc' := 126) hB dc_B_sort_125 rfl rfl ?_
      refine y_aload (pc' := 128) hB dc_B_sort_126 rfl 0 rfl ?_
      refine f_count (r := k) (pc' := 131) hB dc_B_sort_128 rfl (by omega) q_53 ?_
      refine y_topi (y := nI (n)) ((yj_n S od true hk6).trans hc) ?_
      refine y_callS (As := [.int (nI (n))]) (rest := [.int (nI (2)), .int (nI (n)), .int (nI (0)), .ref (o.G.ad (20)), .ref (o.G.ad (2 + k))]) (pc' := 134) hB hE (ct_B_doublings o.l o.G (yj S od true) n hn) mm_B_doublings q_412 q_413 dc_B_sort_131 rfl (by decide) rfl rfl (Nat.le_of_ble_eq_true rfl) (fun v S' hpost => ?_)
      obtain ⟨rfl, hSS⟩ := hpost
      rw [hSS]
      clear hSS S'
      show yW o (yj S od true) 134 [(4, .ref (o.G.ad (2 + k))), (0, .ref (o.G.ad (0))), (1, .int (nI (k))), (2, .int (nI (2))), (3, .int (nI (od)))] [.int (nI (zdb n)), .int (nI (2)), .int (nI (n)), .int (nI (0)), .ref (o.G.ad (20)), .ref (o.G.ad (2 + k))]
      refine n_imul (x := 2) (y := zdb n) (pc' := 135) hB dc_B_sort_134 rfl ?_
      refine y_callSN (As := [.ref (o.G.ad (2 + k)), .ref (o.G.ad (20)), .int (nI (0)), .int (nI (n)), .int (nI (2 * (zdb n)))]) (rest := []) (pc' := 138) hB hE (ct_P_arrange o.l o.G od true k hk6 (zdb n) (2 * zdb n) (by omega) (yj S od true) 0 hJ 0 n (by omega) hn (by rw [Nat.sub_zero]; exact zdb_pow hn)) mm_P_arrange q_415 q_416 dc_B_sort_135 rfl (by omega) rfl rfl (Nat.le_of_ble_eq_true rfl) (fun v S' hpost => ?_)
      obtain ⟨f3, c3, rfl, rfl, m1, m2, m3, m4⟩ := hpost
      rw [Nat.sub_zero] at m1 m3 m4
      rw [Nat.zero_add] at m4
      show yW o (yq (yz (yj S od true) k f3) c3) 138 [(4, .ref (o.G.ad (2 + k))), (0, .ref (o.G.ad (0))), (1, .int (nI (k))), (2, .int (nI (2))), (3, .int (nI (od)))] []
      refine y_goto (tg := 196) hB dc_B_sort_138 rfl ?_
      exact fin _ f3 c3 (yJ_yq (yJ_yz hJ k f3) c3) (((yU_yj S od true).z hk f3).tr (yU_yq _ _)) (zt_un m3 m1) (Nat.le_trans m4 (zcost2 n _))
    · subst e
      obtain rfl : tg = true := hg
      refine y_tableIn (off := 104) (tg := 141) hB dc_B_sort_37 (by decide) (by decide) rfl rfl ?_
      have hJ := yj_J S true ho
      refine y_aload (pc' := 143) hB dc_B_sort_141 rfl 0 rfl ?_
      refine y_aload_n (pc' := 144) hB dc_B_sort_143 rfl rfl 1 rfl ?_
      refine f_B_judge (pc' := 147) hB dc_B_sort_144 rfl q_105 ?_
      refine y_callS (As := [.ref (o.G.ad (2 + k)), .ref (o.G.ad (20))]) (rest := []) (pc' := 150) hB hE (ct_In_arrangeOverGaps o.l o.G (yj S od true) od true 0 hJ k hk6 n hn ((yj_n S od true hk6).trans hc)) mm_In_arrangeOverGaps q_429 q_430 dc_B_sort_147 rfl (by decide) rfl rfl (Nat.le_of_ble_eq_true rfl) (fun v S' hpost => ?_)
      obtain ⟨f3, c3, rfl, rfl, m1, m2, m3, m4⟩ := hpost
      rw [Nat.zero_add] at m4
      show yW o (yq (yz (yj S od true) k f3) c3) 150 [(4, .ref (o.G.ad (2 + k))), (0, .ref (o.G.ad (0))), (1, .int (nI (k))), (2, .int (nI (3))), (3, .int (nI (od)))] []
      refine y_goto (tg := 196) hB dc_B_sort_150 rfl ?_
      exact fin _ f3 c3 (yJ_yq (yJ_yz hJ k f3) c3) (((yU_yj S od true).z hk f3).tr (yU_yq _ _)) (zt_un m3 m1) m4
    · subst e
      obtain rfl : tg = false := hg
      refine y_tableIn (off := 116) (tg := 153) hB dc_B_sort_37 (by decide) (by decide) rfl rfl ?_
      have hJ := yj_J S false ho
      refine y_aload (pc' := 155) hB dc_B_sort_153 rfl 0 rfl ?_
      refine y_aload_n (pc' := 156) hB dc_B_sort_155 rfl rfl 1 rfl ?_
      refine f_B_spare (pc' := 159) hB dc_B_sort_156 rfl q_104 ?_
      refine y_aload_n (pc' := 160) hB dc_B_sort_159 rfl rfl 1 rfl ?_
      refine f_B_judge (pc' := 163) hB dc_B_sort_160 rfl q_105 ?_
      refine y_callS (As := [.ref (o.G.ad (2 + k)), .ref (o.G.ad (2 + 5)), .ref (o.G.ad (20))]) (rest := []) (pc' := 166) hB hE (ct_Me_arrange o.l o.G (yj S od false) od false 0 hJ k hk6 5 (by decide) (by omega) n hn ((yj_n S od false hk6).trans hc) (zdb n) (zdb_pow hn)) mm_Me_arrange q_439 q_440 dc_B_sort_163 rfl (by decide) rfl rfl (Nat.le_of_ble_eq_true rfl) (fun v S' hpost => ?_)
      obtain ⟨f3, g3, c3, rfl, rfl, m1, m2, m3, m4⟩ := hpost
      rw [Nat.zero_add] at m4
      show yW o (yq (yz (yz (yj S od false) k f3) 5 g3) c3) 166 [(4, .ref (o.G.ad (2 + k))), (0, .ref (o.G.ad (0))), (1, .int (nI (k))), (2, .int (nI (4))), (3, .int (nI (od)))] [.int (nI (zj (zq od false) (zs (ye (yj S od false) k) 0 n)))]
      refine y_pop (pc' := 167) hB dc_B_sort_166 rfl rfl ?_
      refine y_goto (tg := 196) hB dc_B_sort_167 rfl ?_
      exact fin _ f3 c3 (yJ_yq (yJ_yz (yJ_yz hJ k f3) 5 g3) c3) ((((yU_yj S od false).z hk f3).tr (yU_yz _ (Or.inr rfl) g3)).tr (yU_yq _ _)) (zt_of m1 m2) (Nat.le_trans m4 (zcost4 n _))
    · subst e
      obtain rfl : tg = false := hg
      refine y_tableIn (off := 133) (tg := 170) hB dc_B_sort_37 (by decide) (by decide) rfl rfl ?_
      have hJ := yj_J S false ho
      refine y_aload_n (pc' := 171) hB dc_B_sort_170 rfl rfl 1 rfl ?_
      refine f_B_pile (pc' := 174) hB dc_B_sort_171 rfl q_106 ?_
      refine y_aload (pc' := 176) hB dc_B_sort_174 rfl 0 rfl ?_
      refine y_callV (c := 21) (ci := 3) (As := [.ref (o.G.ad (2 + k))]) (rest := []) (pc' := 179) hB hE (ct_Pi_arrange o.l o.G (yj S od false) od false 0 hJ k hk6 (by omega) n hn ((yj_n S od false hk6).trans hc) hb0) mm_Pi_arrange q_451 q_452 q_453 (by decide) rfl rfl dc_B_sort_176 rfl (by decide) rfl rfl (Nat.le_of_ble_eq_true rfl) (fun v S' hpost => ?_)
      obtain ⟨B3, h3, A3, f3, c3, rfl, rfl, m0, m1, m2, m3, m4⟩ := hpost
      rw [Nat.zero_add] at m4
      show yW o (yPi (yj S od false) B3 h3 A3 k f3 c3) 179 [(4, .ref (o.G.ad (2 + k))), (0, .ref (o.G.ad (0))), (1, .int (nI (k))), (2, .int (nI (5))), (3, .int (nI (od)))] []
      refine y_goto (tg := 196) hB dc_B_sort_179 rfl ?_
      exact fin _ f3 c3 (yPi_J hJ) ((((((yU_yj S od false).tr (yU_s22 _ (m0.trans hb0.symm))).tr (yU_sF _ (Or.inr rfl) 3 _)).tr (yU_yz _ (Or.inr rfl) A3)).z hk f3).tr (yU_yq _ _)) (zt_of m1 m2) (Nat.le_trans m4 (zcost5 hn))
    · subst e
      obtain rfl : tg = false := hg
      refine y_tableOut (tg := 182) hB dc_B_sort_37 (by decide) rfl ?_
      have hJ := yj_J S false ho
      refine y_aload (pc' := 184) hB dc_B_sort_182 rfl 0 rfl ?_
      refine y_aload_n (pc' := 185) hB dc_B_sort_184 rfl rfl 1 rfl ?_
      refine f_B_spare (pc' := 188) hB dc_B_sort_185 rfl q_104 ?_
      refine y_aload_n (pc' := 189) hB dc_B_sort_188 rfl rfl 1 rfl ?_
      refine f_B_counts (pc' := 192) hB dc_B_sort_189 rfl q_107 ?_
      refine y_iload_n (pc' := 193) hB dc_B_sort_192 rfl rfl 4 rfl ?_
      refine y_callS (As := [.ref (o.G.ad (2 + k)), .ref (o.G.ad (2 + 5)), .ref (o.G.ad (23)), .int (nI (od))]) (rest := []) (pc' := 196) hB hE (ct_C_arrange o.l o.G (yj S od false) k hk6 5 (by decide) (by omega) n hn ((yj_n S od false hk6).trans hc) od (h6 rfl)) mm_C_arrange q_511 q_512 dc_B_sort_193 rfl (by decide) rfl rfl (Nat.le_of_ble_eq_true rfl) (fun v S' hpost => ?_)
      obtain ⟨h3, g3, f3, rfl, rfl, m1, m2, m3⟩ := hpost
      show yW o (yz (yz (sI (yj S od false) 23 h3) 5 g3) k f3) 196 [(4, .ref (o.G.ad (2 + k))), (0, .ref (o.G.ad (0))), (1, .int (nI (k))), (2, .int (nI (6))), (3, .int (nI (od)))] []
      exact fin _ f3 0 (yJ_yz (yJ_yz (S := sI (yj S od false) 23 h3) hJ 5 g3) k f3) ((((yU_yj S od false).tr (yU_s23 _ h3)).tr (yU_yz _ (Or.inr rfl) g3)).z hk f3) (zt_of m1 m2) (Nat.zero_le _)
  refine y_aload_n (pc' := 17) hB dc_B_sort_16 rfl rfl 1 rfl ?_
  refine f_B_judge (pc' := 20) hB dc_B_sort_17 rfl q_105 ?_
  refine y_iload_n (pc' := 21) hB dc_B_sort_20 rfl rfl 4 rfl ?_
  refine y_iload_n (pc' := 22) hB dc_B_sort_21 rfl rfl 3 rfl ?_
  refine y_callS (As := [.int (nI (wy))]) (rest := [.int (nI (od)), .ref (o.G.ad (20))]) (pc' := 25) hB hE (ct_B_isSteady o.l o.G S wy hw) mm_B_isSteady q_361 q_362 dc_B_sort_22 rfl (by decide) rfl rfl (Nat.le_of_ble_eq_true rfl) (fun v S' hpost => ?_)
  obtain ⟨rfl, hSS⟩ := hpost
  rw [hSS]
  clear hSS S'
  show yW o (S) 25 [(4, .ref (o.G.ad (2 + k))), (0, .ref (o.G.ad (0))), (1, .int (nI (k))), (2, .int (nI (wy))), (3, .int (nI (od)))] [.int (yb (decide (wy = 0 ∨ wy = 4 ∨ wy = 5 ∨ wy = 6))), .int (nI (od)), .ref (o.G.ad (20))]
  refine y_if_ne (x := yb (decide (wy = 0 ∨ wy = 4 ∨ wy = 5 ∨ wy = 6))) (pc' := 28) (tg := 32) hB dc_B_sort_25 rfl rfl (fun b1 => ?_) (fun b1 => ?_)
  · refine y_iconst (v := nI 0) (pc' := 33) hB dc_B_sort_32 rfl rfl ?_
    refine y_sub [0, 1, 2, 3, 4] rfl ?_
    exact go false (by unfold zun; rw [yb_n.mp b1]; rfl)
  · refine y_iconst (v := nI 1) (pc' := 29) hB dc_B_sort_28 rfl rfl ?_
    refine y_goto (tg := 33) hB dc_B_sort_29 rfl ?_
    refine y_sub [0, 1, 2, 3, 4] rfl ?_
    exact go true (by unfold zun; rw [show decide (wy = 0 ∨ wy = 4 ∨ wy = 5 ∨ wy = 6) = false from yb_0.mp b1]; rfl)
