/-! REFERENCE: fill -/
theorem dc_M_fill_0 : decode mb_M_fill 0 = .ok (.aload_n 0, 1) := by decide +kernel
theorem dc_M_fill_1 : decode mb_M_fill 1 = .ok (.iload_n 1, 1) := by decide +kernel
theorem dc_M_fill_2 : decode mb_M_fill 2 = .ok (.invokevirtual 56, 3) := by decide +kernel
theorem dc_M_fill_5 : decode mb_M_fill 5 = .ok (.ifCond .eq 4, 3) := by decide +kernel
theorem dc_M_fill_8 : decode mb_M_fill 8 = .ok (.return_, 1) := by decide +kernel
theorem dc_M_fill_9 : decode mb_M_fill 9 = .ok (.aload_n 0, 1) := by decide +kernel
theorem dc_M_fill_10 : decode mb_M_fill 10 = .ok (.iload_n 2, 1) := by decide +kernel
theorem dc_M_fill_11 : decode mb_M_fill 11 = .ok (.ifCond .lt 19, 3) := by decide +kernel
theorem dc_M_fill_14 : decode mb_M_fill 14 = .ok (.iload_n 2, 1) := by decide +kernel
theorem dc_M_fill_15 : decode mb_M_fill 15 = .ok (.sipush 1024, 3) := by decide +kernel
theorem dc_M_fill_18 : decode mb_M_fill 18 = .ok (.if_icmp .gt 12, 3) := by decide +kernel
theorem dc_M_fill_21 : decode mb_M_fill 21 = .ok (.iload_n 3, 1) := by decide +kernel
theorem dc_M_fill_22 : decode mb_M_fill 22 = .ok (.ifCond .lt 8, 3) := by decide +kernel
theorem dc_M_fill_25 : decode mb_M_fill 25 = .ok (.iload_n 3, 1) := by decide +kernel
theorem dc_M_fill_26 : decode mb_M_fill 26 = .ok (.iconst 5, 1) := by decide +kernel
theorem dc_M_fill_27 : decode mb_M_fill 27 = .ok (.if_icmp .le 7, 3) := by decide +kernel
theorem dc_M_fill_30 : decode mb_M_fill 30 = .ok (.iconst 2, 1) := by decide +kernel
theorem dc_M_fill_31 : decode mb_M_fill 31 = .ok (.goto 4, 3) := by decide +kernel
theorem dc_M_fill_34 : decode mb_M_fill 34 = .ok (.iconst 0, 1) := by decide +kernel
theorem dc_M_fill_35 : decode mb_M_fill 35 = .ok (.putfield 29, 3) := by decide +kernel
theorem dc_M_fill_38 : decode mb_M_fill 38 = .ok (.aload_n 0, 1) := by decide +kernel
theorem dc_M_fill_39 : decode mb_M_fill 39 = .ok (.getfield 29, 3) := by decide +kernel
theorem dc_M_fill_42 : decode mb_M_fill 42 = .ok (.ifCond .le 4, 3) := by decide +kernel
theorem dc_M_fill_45 : decode mb_M_fill 45 = .ok (.return_, 1) := by decide +kernel
theorem dc_M_fill_46 : decode mb_M_fill 46 = .ok (.iconst 0, 1) := by decide +kernel
theorem dc_M_fill_47 : decode mb_M_fill 47 = .ok (.istore 7, 2) := by decide +kernel
theorem dc_M_fill_49 : decode mb_M_fill 49 = .ok (.iload 7, 2) := by decide +kernel
theorem dc_M_fill_51 : decode mb_M_fill 51 = .ok (.iload_n 2, 1) := by decide +kernel
theorem dc_M_fill_52 : decode mb_M_fill 52 = .ok (.if_icmp .ge 48, 3) := by decide +kernel
theorem dc_M_fill_55 : decode mb_M_fill 55 = .ok (.aload_n 0, 1) := by decide +kernel
theorem dc_M_fill_56 : decode mb_M_fill 56 = .ok (.getfield 7, 3) := by decide +kernel
theorem dc_M_fill_59 : decode mb_M_fill 59 = .ok (.sipush 1024, 3) := by decide +kernel
theorem dc_M_fill_62 : decode mb_M_fill 62 = .ok (.iload_n 1, 1) := by decide +kernel
theorem dc_M_fill_63 : decode mb_M_fill 63 = .ok (.imul, 1) := by decide +kernel
theorem dc_M_fill_64 : decode mb_M_fill 64 = .ok (.iload 7, 2) := by decide +kernel
theorem dc_M_fill_66 : decode mb_M_fill 66 = .ok (.iadd, 1) := by decide +kernel
theorem dc_M_fill_67 : decode mb_M_fill 67 = .ok (.iload_n 2, 1) := by decide +kernel
theorem dc_M_fill_68 : decode mb_M_fill 68 = .ok (.iload_n 3, 1) := by decide +kernel
theorem dc_M_fill_69 : decode mb_M_fill 69 = .ok (.lload 4, 2) := by decide +kernel
theorem dc_M_fill_71 : decode mb_M_fill 71 = .ok (.iload 6, 2) := by decide +kernel
theorem dc_M_fill_73 : decode mb_M_fill 73 = .ok (.iload 7, 2) := by decide +kernel
theorem dc_M_fill_75 : decode mb_M_fill 75 = .ok (.invokestatic 62, 3) := by decide +kernel
theorem dc_M_fill_78 : decode mb_M_fill 78 = .ok (.lastore, 1) := by decide +kernel
theorem dc_M_fill_79 : decode mb_M_fill 79 = .ok (.aload_n 0, 1) := by decide +kernel
theorem dc_M_fill_80 : decode mb_M_fill 80 = .ok (.getfield 13, 3) := by decide +kernel
theorem dc_M_fill_83 : decode mb_M_fill 83 = .ok (.sipush 1024, 3) := by decide +kernel
theorem dc_M_fill_86 : decode mb_M_fill 86 = .ok (.iload_n 1, 1) := by decide +kernel
theorem dc_M_fill_87 : decode mb_M_fill 87 = .ok (.imul, 1) := by decide +kernel
theorem dc_M_fill_88 : decode mb_M_fill 88 = .ok (.iload 7, 2) := by decide +kernel
theorem dc_M_fill_90 : decode mb_M_fill 90 = .ok (.iadd, 1) := by decide +kernel
theorem dc_M_fill_91 : decode mb_M_fill 91 = .ok (.iload 7, 2) := by decide +kernel
theorem dc_M_fill_93 : decode mb_M_fill 93 = .ok (.iastore, 1) := by decide +kernel
theorem dc_M_fill_94 : decode mb_M_fill 94 = .ok (.iinc 7 1, 3) := by decide +kernel
theorem dc_M_fill_97 : decode mb_M_fill 97 = .ok (.goto (-48), 3) := by decide +kernel
theorem dc_M_fill_100 : decode mb_M_fill 100 = .ok (.aload_n 0, 1) := by decide +kernel
theorem dc_M_fill_101 : decode mb_M_fill 101 = .ok (.getfield 17, 3) := by decide +kernel
theorem dc_M_fill_104 : decode mb_M_fill 104 = .ok (.iload_n 1, 1) := by decide +kernel
theorem dc_M_fill_105 : decode mb_M_fill 105 = .ok (.iload_n 2, 1) := by decide +kernel
theorem dc_M_fill_106 : decode mb_M_fill 106 = .ok (.iastore, 1) := by decide +kernel
theorem dc_M_fill_107 : decode mb_M_fill 107 = .ok (.iload 6, 2) := by decide +kernel
theorem dc_M_fill_109 : decode mb_M_fill 109 = .ok (.i2l, 1) := by decide +kernel
theorem dc_M_fill_110 : decode mb_M_fill 110 = .ok (.lstore 7, 2) := by decide +kernel
theorem dc_M_fill_112 : decode mb_M_fill 112 = .ok (.iload_n 3, 1) := by decide +kernel
theorem dc_M_fill_113 : decode mb_M_fill 113 = .ok (.iconst 5, 1) := by decide +kernel
theorem dc_M_fill_114 : decode mb_M_fill 114 = .ok (.if_icmp .ne 76, 3) := by decide +kernel
theorem dc_M_fill_117 : decode mb_M_fill 117 = .ok (.iload 6, 2) := by decide +kernel
theorem dc_M_fill_119 : decode mb_M_fill 119 = .ok (.ifCond .le 71, 3) := by decide +kernel
theorem dc_M_fill_122 : decode mb_M_fill 122 = .ok (.lload 7, 2) := by decide +kernel
theorem dc_M_fill_124 : decode mb_M_fill 124 = .ok (.lconst 1, 1) := by decide +kernel
theorem dc_M_fill_125 : decode mb_M_fill 125 = .ok (.ladd, 1) := by decide +kernel
theorem dc_M_fill_126 : decode mb_M_fill 126 = .ok (.iload_n 2, 1) := by decide +kernel
theorem dc_M_fill_127 : decode mb_M_fill 127 = .ok (.i2l, 1) := by decide +kernel
theorem dc_M_fill_128 : decode mb_M_fill 128 = .ok (.lcmp, 1) := by decide +kernel
theorem dc_M_fill_129 : decode mb_M_fill 129 = .ok (.ifCond .ge 61, 3) := by decide +kernel
theorem dc_M_fill_132 : decode mb_M_fill 132 = .ok (.sipush 1024, 3) := by decide +kernel
theorem dc_M_fill_135 : decode mb_M_fill 135 = .ok (.iload_n 1, 1) := by decide +kernel
theorem dc_M_fill_136 : decode mb_M_fill 136 = .ok (.imul, 1) := by decide +kernel
theorem dc_M_fill_137 : decode mb_M_fill 137 = .ok (.lload 7, 2) := by decide +kernel
theorem dc_M_fill_139 : decode mb_M_fill 139 = .ok (.l2i, 1) := by decide +kernel
theorem dc_M_fill_140 : decode mb_M_fill 140 = .ok (.iadd, 1) := by decide +kernel
theorem dc_M_fill_141 : decode mb_M_fill 141 = .ok (.istore 9, 2) := by decide +kernel
theorem dc_M_fill_143 : decode mb_M_fill 143 = .ok (.aload_n 0, 1) := by decide +kernel
theorem dc_M_fill_144 : decode mb_M_fill 144 = .ok (.getfield 7, 3) := by decide +kernel
theorem dc_M_fill_147 : decode mb_M_fill 147 = .ok (.iload 9, 2) := by decide +kernel
theorem dc_M_fill_149 : decode mb_M_fill 149 = .ok (.laload, 1) := by decide +kernel
theorem dc_M_fill_150 : decode mb_M_fill 150 = .ok (.lstore 10, 2) := by decide +kernel
theorem dc_M_fill_152 : decode mb_M_fill 152 = .ok (.aload_n 0, 1) := by decide +kernel
theorem dc_M_fill_153 : decode mb_M_fill 153 = .ok (.getfield 7, 3) := by decide +kernel
theorem dc_M_fill_156 : decode mb_M_fill 156 = .ok (.iload 9, 2) := by decide +kernel
theorem dc_M_fill_158 : decode mb_M_fill 158 = .ok (.aload_n 0, 1) := by decide +kernel
theorem dc_M_fill_159 : decode mb_M_fill 159 = .ok (.getfield 7, 3) := by decide +kernel
theorem dc_M_fill_162 : decode mb_M_fill 162 = .ok (.iload 9, 2) := by decide +kernel
theorem dc_M_fill_164 : decode mb_M_fill 164 = .ok (.iconst 1, 1) := by decide +kernel
theorem dc_M_fill_165 : decode mb_M_fill 165 = .ok (.iadd, 1) := by decide +kernel
theorem dc_M_fill_166 : decode mb_M_fill 166 = .ok (.laload, 1) := by decide +kernel
theorem dc_M_fill_167 : decode mb_M_fill 167 = .ok (.lastore, 1) := by decide +kernel
theorem dc_M_fill_168 : decode mb_M_fill 168 = .ok (.aload_n 0, 1) := by decide +kernel
theorem dc_M_fill_169 : decode mb_M_fill 169 = .ok (.getfield 7, 3) := by decide +kernel
theorem dc_M_fill_172 : decode mb_M_fill 172 = .ok (.iload 9, 2) := by decide +kernel
theorem dc_M_fill_174 : decode mb_M_fill 174 = .ok (.iconst 1, 1) := by decide +kernel
theorem dc_M_fill_175 : decode mb_M_fill 175 = .ok (.iadd, 1) := by decide +kernel
theorem dc_M_fill_176 : decode mb_M_fill 176 = .ok (.lload 10, 2) := by decide +kernel
theorem dc_M_fill_178 : decode mb_M_fill 178 = .ok (.lastore, 1) := by decide +kernel
theorem dc_M_fill_179 : decode mb_M_fill 179 = .ok (.lload 7, 2) := by decide +kernel
theorem dc_M_fill_181 : decode mb_M_fill 181 = .ok (.iload 6, 2) := by decide +kernel
theorem dc_M_fill_183 : decode mb_M_fill 183 = .ok (.i2l, 1) := by decide +kernel
theorem dc_M_fill_184 : decode mb_M_fill 184 = .ok (.ladd, 1) := by decide +kernel
theorem dc_M_fill_185 : decode mb_M_fill 185 = .ok (.lstore 7, 2) := by decide +kernel
theorem dc_M_fill_187 : decode mb_M_fill 187 = .ok (.goto (-75), 3) := by decide +kernel
theorem dc_M_fill_190 : decode mb_M_fill 190 = .ok (.return_, 1) := by decide +kernel
theorem zl_add {x y : Int64} {a b : Nat} (hx : x.toInt = a) (hy : y.toInt = b) (h : a + b < 2 ^ 62) : (x + y).toInt = ((a + b : Nat) : Int) := by
  rw [Int64.toInt_add, hx, hy, Int.bmod_eq_of_le (by omega) (by omega)]
  omega
theorem zl_2i {x : Int64} {a : Nat} (hx : x.toInt = a) (h : a < 2 ^ 31) : x.toInt32 = nI a := by
  apply Int32.toInt_inj.mp
  rw [Int64.toInt_toInt32, hx, nI_toInt h, Int.bmod_eq_of_le (by omega) (by omega)]
theorem mK27_K (X : YS) (K K2 : Nat → Int64) (T U : Nat → Int32) : sL (sI (mK X K T) 27 U) 25 K2 = sI (mK X K2 T) 27 U := by
  refine YS_ext (fun c => ?_) (fun c => ?_) (fun c k => rfl)
  · show gL (sL (sL X 25 K) 25 K2) c = gL (sL X 25 K2) c
    simp only [gL_sL]
    split <;> rfl
  · rfl
theorem mK27_g (X : YS) (K : Nat → Int64) (T U : Nat → Int32) : gL (sI (mK X K T) 27 U) 25 = K := mK_K X K T
set_option maxHeartbeats 4000000 in
set_option maxRecDepth 100000 in
theorem ct_M_fill (l : Launch) (g : YG) (S : YS) (k m kd : Nat) (hk : k < 4) (hm2 : m ≤ 1024) (hkd : kd < 6) (a : Int64) (s : Int32) : yC l mn_M_fill mb_M_fill 12 none 1 g [.ref (g.ad (24)), .int (nI (k)), .int (nI (m)), .int (nI (kd)), .long (a), .int (s)] S (fun v S' => ∃ (K : Nat → Int64) (T : Nat → Int32), v = none ∧ S' = sI (mK (yx S 0) (K) T) 27 (upd (gI S 27) k (nI m)) ∧ (∀ j, j < m → (K (1024 * k + j), T (1024 * k + j)) = zfl5 kd m a s j) ∧ (∀ j, j < 1024 * k ∨ 1024 * k + m ≤ j → K j = gL S 25 j ∧ T j = gI S 26 j)) := by
  refine yC_of (by decide) (Nat.le_of_ble_eq_true rfl) ?_
  intro o hl hg hB0 hE
  subst hl
  subst hg
  have hB : yB o mb_M_fill "OrderBenchModel" := hB0
  have hm := hE.1
  show yW o (S) 0 [(0, .ref (o.G.ad (24))), (1, .int (nI (k))), (2, .int (nI (m))), (3, .int (nI (kd))), (4, .long (a)), (6, .int (s))] []
  refine y_aload_n (pc' := 1) hB dc_M_fill_0 rfl rfl 0 rfl ?_
  refine y_iload_n (pc' := 2) hB dc_M_fill_1 rfl rfl 1 rfl ?_
  refine y_callV (c := 24) (ci := 4) (As := [.int (nI (k))]) (rest := []) (pc' := 5) hB hE (ct_M_noRow o.l o.G S (nI k) (zgr_of hk)) mm_M_noRow q_672 q_674 qs_12 (by decide) rfl rfl dc_M_fill_2 rfl (by decide) rfl rfl (Nat.le_of_ble_eq_true rfl) (fun v S' hpost => ?_)
  obtain ⟨rfl, hSS⟩ := hpost
  rw [hSS]
  clear hSS S'
  show yW o (yx S 0) 5 [(0, .ref (o.G.ad (24))), (1, .int (nI (k))), (2, .int (nI (m))), (3, .int (nI (kd))), (4, .long (a)), (6, .int (s))] [.int (0)]
  refine y_if_eq (x := 0) (pc' := 8) (tg := 9) hB dc_M_fill_5 rfl rfl (fun b1 => ?_) (fun b1 => ?_)
  · refine y_aload_n (pc' := 10) hB dc_M_fill_9 rfl rfl 0 rfl ?_
    refine y_iload_n (pc' := 11) hB dc_M_fill_10 rfl rfl 2 rfl ?_
    refine n_if_lt (pc' := 14) (tg := 30) hB dc_M_fill_11 rfl rfl (by omega) ?_
    refine y_iload_n (pc' := 15) hB dc_M_fill_14 rfl rfl 2 rfl ?_
    refine y_sipush (v := nI 1024) (pc' := 18) hB dc_M_fill_15 rfl (by decide) ?_
    refine n_icmp_gt (pc' := 21) (tg := 30) hB dc_M_fill_18 rfl rfl (by omega) (by omega) (fun b3 => ?_) (fun b3 => ?_)
    · omega
    · refine y_iload_n (pc' := 22) hB dc_M_fill_21 rfl rfl 3 rfl ?_
      refine n_if_lt (pc' := 25) (tg := 30) hB dc_M_fill_22 rfl rfl (by omega) ?_
      refine y_iload_n (pc' := 26) hB dc_M_fill_25 rfl rfl 3 rfl ?_
      refine y_iconst (v := nI 5) (pc' := 27) hB dc_M_fill_26 rfl rfl ?_
      refine n_icmp_le (pc' := 30) (tg := 34) hB dc_M_fill_27 rfl rfl (by omega) (by omega) (fun b5 => ?_) (fun b5 => ?_)
      · refine y_iconst (v := nI 0) (pc' := 35) hB dc_M_fill_34 rfl rfl ?_
        refine p_M_code (pc' := 38) hB dc_M_fill_35 rfl q_639 ?_
        show yW o (yx (yx S 0) 0) 38 [(0, .ref (o.G.ad (24))), (1, .int (nI (k))), (2, .int (nI (m))), (3, .int (nI (kd))), (4, .long (a)), (6, .int (s))] []
        rw [yx_yx]
        refine y_aload_n (pc' := 39) hB dc_M_fill_38 rfl rfl 0 rfl ?_
        refine f_M_code (pc' := 42) hB dc_M_fill_39 rfl q_639 ?_
        refine y_topi (y := nI (0)) (yx_c S 0) ?_
        refine n_if_le (pc' := 45) (tg := 46) hB dc_M_fill_42 rfl rfl (by omega) (fun b6 => ?_) (fun b6 => ?_)
        · have done : ∀ (K : Nat → Int64) (T : Nat → Int32), (∀ j, j < m → (K (1024 * k + j), T (1024 * k + j)) = zfl5 kd m a s j) → (∀ j, j < 1024 * k ∨ 1024 * k + m ≤ j → K j = gL S 25 j ∧ T j = gI S 26 j) → ∀ lv, yW o (sI (mK (yx S 0) (K) T) 27 (upd (gI S 27) k (nI m))) 190 lv [] := fun K T z1 z2 lv => y_vret hB hE dc_M_fill_190 ⟨K, T, rfl, rfl, z1, z2⟩
          have hsb := zw_i s
          have loop : ∀ (d : Nat) (i : Nat) (x : Int64) (K : Nat → Int64) (T : Nat → Int32) (D : Nat), m - i < d → 0 < s.toInt → kd = 5 → x.toInt = (i : Int) → i < 1024 + 2 ^ 31 → m - i < D → (∀ j, j < m → zcn m s.toInt.toNat D i (fun j => (K (1024 * k + j), T (1024 * k + j))) j = zfl5 kd m a s j) → (∀ j, j < 1024 * k ∨ 1024 * k + m ≤ j → K j = gL S 25 j ∧ T j = gI S 26 j) → yW o (sI (mK (yx S 0) (K) T) 27 (upd (gI S 27) k (nI m))) 112 [(7, .long (x)), (0, .ref (o.G.ad (24))), (1, .int (nI (k))), (2, .int (nI (m))), (3, .int (nI (kd))), (4, .long (a)), (6, .int (s))] [] := by
            intro d
            induction d with
            | zero => intro i x K T D hd; omega
            | succ d ih =>
              intro i x K T D hd h0 k5 hx hi h1 h2 h3
              refine y_iload_n (pc' := 113) hB dc_M_fill_112 rfl rfl 4 rfl ?_
              refine y_iconst (v := nI 5) (pc' := 114) hB dc_M_fill_113 rfl rfl ?_
              refine n_icmp_ne (pc' := 117) (tg := 190) hB dc_M_fill_114 rfl rfl (by omega) (by omega) (fun c1 => ?_) (fun c1 => ?_)
              · omega
              · refine y_iload (pc' := 119) hB dc_M_fill_117 rfl 6 rfl ?_
                refine y_if_le (x := s) (pc' := 122) (tg := 190) hB dc_M_fill_119 rfl rfl (fun c2 => ?_) (fun c2 => ?_)
                · have z : s.toInt ≤ (0 : Int32).toInt := Int32.le_iff_toInt_le.mp c2
                  exact absurd z (by show ¬ s.toInt ≤ 0; omega)
                · refine y_lload (pc' := 124) hB dc_M_fill_122 rfl 0 rfl ?_
                  refine y_lconst (v := 1) (pc' := 125) hB dc_M_fill_124 rfl rfl ?_
                  refine y_ladd (v := x + 1) (pc' := 126) hB dc_M_fill_125 rfl rfl ?_
                  refine y_iload_n (pc' := 127) hB dc_M_fill_126 rfl rfl 3 rfl ?_
                  refine y_i2l (v := Int32.toInt64 (nI (m))) (pc' := 128) hB dc_M_fill_127 rfl rfl ?_
                  refine y_lcmp (pc' := 129) hB dc_M_fill_128 rfl ?_
                  refine y_if_ge (x := lg_cmp (x + 1) (Int32.toInt64 (nI (m)))) (pc' := 132) (tg := 190) hB dc_M_fill_129 rfl rfl (fun c3 => ?_) (fun c3 => ?_)
                  · have hx1 : (x + 1).toInt = ((i + 1 : Nat) : Int) := zl_add hx rfl (by omega)
                    have hm64 : (Int32.toInt64 (nI m)).toInt = (m : Int) := by rw [Int32.toInt_toInt64, nI_toInt (by omega)]
                    have z := lg_ge.mp c3
                    rw [hx1, hm64] at z
                    exact done K T (fun j hj => by rw [← h2 j hj, zcn_end (by omega)]) h3 _
                  · have hx1 : (x + 1).toInt = ((i + 1 : Nat) : Int) := zl_add hx rfl (by omega)
                    have hm64 : (Int32.toInt64 (nI m)).toInt = (m : Int) := by rw [Int32.toInt_toInt64, nI_toInt (by omega)]
                    have z : i + 1 < m := Nat.lt_of_not_le fun q => c3 (lg_ge.mpr (by rw [hx1, hm64]; omega))
                    refine y_sipush (v := nI 1024) (pc' := 135) hB dc_M_fill_132 rfl (by decide) ?_
                    refine y_iload_n (pc' := 136) hB dc_M_fill_135 rfl rfl 2 rfl ?_
                    refine n_imul (x := 1024) (y := k) (pc' := 137) hB dc_M_fill_136 rfl ?_
                    refine y_lload (pc' := 139) hB dc_M_fill_137 rfl 0 rfl ?_
                    refine y_l2i (v := Int64.toInt32 (x)) (pc' := 140) hB dc_M_fill_139 rfl rfl ?_
                    refine y_topi (y := nI (i)) (zl_2i hx (by omega)) ?_
                    refine n_iadd (x := 1024 * k) (y := i) (pc' := 141) hB dc_M_fill_140 rfl ?_
                    refine y_istore (pc' := 143) (lv' := [(9, .int (nI ((1024 * k) + i))), (7, .long (x)), (0, .ref (o.G.ad (24))), (1, .int (nI (k))), (2, .int (nI (m))), (3, .int (nI (kd))), (4, .long (a)), (6, .int (s))]) hB hm dc_M_fill_141 rfl (by decide) rfl ?_
                    refine y_aload_n (pc' := 144) hB dc_M_fill_143 rfl rfl 2 rfl ?_
                    refine f_M_keys (pc' := 147) hB dc_M_fill_144 rfl q_640 ?_
                    refine y_iload (pc' := 149) hB dc_M_fill_147 rfl 0 rfl ?_
                    refine y_lald (c := 25) (n := 4096) (j := (1024 * k) + i) (pc' := 150) hB dc_M_fill_149 rfl (by decide) rfl (by omega) (by decide) ?_
                    refine y_topl (y := K (1024 * k + i)) (by rw [mK27_g]) ?_
                    refine y_lstore (pc' := 152) (lv' := [(10, .long (K (1024 * k + i))), (9, .int (nI ((1024 * k) + i))), (7, .long (x)), (0, .ref (o.G.ad (24))), (1, .int (nI (k))), (2, .int (nI (m))), (3, .int (nI (kd))), (4, .long (a)), (6, .int (s))]) hB hm dc_M_fill_150 rfl (by decide) rfl ?_
                    refine y_aload_n (pc' := 153) hB dc_M_fill_152 rfl rfl 3 rfl ?_
                    refine f_M_keys (pc' := 156) hB dc_M_fill_153 rfl q_640 ?_
                    refine y_iload (pc' := 158) hB dc_M_fill_156 rfl 1 rfl ?_
                    refine y_aload_n (pc' := 159) hB dc_M_fill_158 rfl rfl 3 rfl ?_
                    refine f_M_keys (pc' := 162) hB dc_M_fill_159 rfl q_640 ?_
                    refine y_iload (pc' := 164) hB dc_M_fill_162 rfl 1 rfl ?_
                    refine y_iconst (v := nI 1) (pc' := 165) hB dc_M_fill_164 rfl rfl ?_
                    refine n_iadd (x := (1024 * k) + i) (y := 1) (pc' := 166) hB dc_M_fill_165 rfl ?_
                    refine y_lald (c := 25) (n := 4096) (j := ((1024 * k) + i) + 1) (pc' := 167) hB dc_M_fill_166 rfl (by decide) rfl (by omega) (by decide) ?_
                    refine y_topl (y := K (1024 * k + i + 1)) (by rw [mK27_g]) ?_
                    refine y_last (c := 25) (n := 4096) (j := (1024 * k) + i) (pc' := 168) hB dc_M_fill_167 rfl (by decide) rfl (by omega) (by decide) ?_
                    rw [mK27_g, mK27_K]
                    show yW o (sI (mK (yx S 0) (vp_updL K (1024 * k + i) (K (1024 * k + i + 1))) T) 27 (upd (gI S 27) k (nI m))) 168 [(10, .long (K (1024 * k + i))), (9, .int (nI ((1024 * k) + i))), (7, .long (x)), (0, .ref (o.G.ad (24))), (1, .int (nI (k))), (2, .int (nI (m))), (3, .int (nI (kd))), (4, .long (a)), (6, .int (s))] []
                    refine y_aload_n (pc' := 169) hB dc_M_fill_168 rfl rfl 3 rfl ?_
                    refine f_M_keys (pc' := 172) hB dc_M_fill_169 rfl q_640 ?_
                    refine y_iload (pc' := 174) hB dc_M_fill_172 rfl 1 rfl ?_
                    refine y_iconst (v := nI 1) (pc' := 175) hB dc_M_fill_174 rfl rfl ?_
                    refine n_iadd (x := (1024 * k) + i) (y := 1) (pc' := 176) hB dc_M_fill_175 rfl ?_
                    refine y_lload (pc' := 178) hB dc_M_fill_176 rfl 0 rfl ?_
                    refine y_last (c := 25) (n := 4096) (j := ((1024 * k) + i) + 1) (pc' := 179) hB dc_M_fill_178 rfl (by decide) rfl (by omega) (by decide) ?_
                    rw [mK27_g, mK27_K]
                    show yW o (sI (mK (yx S 0) (vp_updL (vp_updL K (1024 * k + i) (K (1024 * k + i + 1))) (1024 * k + i + 1) (K (1024 * k + i))) T) 27 (upd (gI S 27) k (nI m))) 179 [(10, .long (K (1024 * k + i))), (9, .int (nI ((1024 * k) + i))), (7, .long (x)), (0, .ref (o.G.ad (24))), (1, .int (nI (k))), (2, .int (nI (m))), (3, .int (nI (kd))), (4, .long (a)), (6, .int (s))] []
                    refine y_lload (pc' := 181) hB dc_M_fill_179 rfl 2 rfl ?_
                    refine y_iload (pc' := 183) hB dc_M_fill_181 rfl 8 rfl ?_
                    refine y_i2l (v := Int32.toInt64 (s)) (pc' := 184) hB dc_M_fill_183 rfl rfl ?_
                    refine y_ladd (v := x + (Int32.toInt64 (s))) (pc' := 185) hB dc_M_fill_184 rfl rfl ?_
                    refine y_lstore (pc' := 187) (lv' := [(7, .long (x + (Int32.toInt64 (s)))), (10, .long (K (1024 * k + i))), (9, .int (nI ((1024 * k) + i))), (0, .ref (o.G.ad (24))), (1, .int (nI (k))), (2, .int (nI (m))), (3, .int (nI (kd))), (4, .long (a)), (6, .int (s))]) hB hm dc_M_fill_185 rfl (by decide) rfl ?_
                    refine y_goto (tg := 112) hB dc_M_fill_187 rfl ?_
                    refine y_sub [0, 3, 4, 5, 6, 7, 8] rfl ?_
                    obtain ⟨D, rfl⟩ : ∃ z, D = z + 1 := ⟨D - 1, by omega⟩
                    have hs1 : (Int32.toInt64 s).toInt = ((s.toInt.toNat : Nat) : Int) := by rw [Int32.toInt_toInt64]; omega
                    refine ih (i + s.toInt.toNat) _ _ _ D (by omega) h0 k5 (zl_add hx hs1 (by omega)) (by omega) (by omega) (fun j hj => ?_) (fun j hj => ?_)
                    · rw [← h2 j hj, zcn_on z]
                      refine congrArg (fun q => zcn m s.toInt.toNat D (i + s.toInt.toNat) q j) ?_
                      funext q
                      unfold zsk vp_updL
                      by_cases e1 : q = i
                      · rw [if_pos e1, if_neg (by omega), if_pos (by omega)]; rfl
                      · rw [if_neg e1]
                        by_cases e2 : q = i + 1
                        · rw [if_pos e2, if_pos (by omega)]
                        · rw [if_neg e2, if_neg (by omega), if_neg (by omega)]
                    · unfold vp_updL
                      rw [if_neg (by omega), if_neg (by omega)]; exact h3 j hj
          refine y_iconst (v := nI 0) (pc' := 47) hB dc_M_fill_46 rfl rfl ?_
          refine y_istore (pc' := 49) (lv' := [(7, .int (nI (0))), (0, .ref (o.G.ad (24))), (1, .int (nI (k))), (2, .int (nI (m))), (3, .int (nI (kd))), (4, .long (a)), (6, .int (s))]) hB hm dc_M_fill_47 rfl (by decide) rfl ?_
          have first : ∀ (d : Nat) (i : Nat) (K : Nat → Int64) (T : Nat → Int32), m - i < d → i ≤ m → (∀ j, j < i → (K (1024 * k + j), T (1024 * k + j)) = zfi kd m a s j) → (∀ j, j < 1024 * k ∨ 1024 * k + i ≤ j → K j = gL S 25 j ∧ T j = gI S 26 j) → yW o (mK (yx S 0) K T) 49 [(7, .int (nI (i))), (0, .ref (o.G.ad (24))), (1, .int (nI (k))), (2, .int (nI (m))), (3, .int (nI (kd))), (4, .long (a)), (6, .int (s))] [] := by
            intro d
            induction d with
            | zero => intro i K T hd; omega
            | succ d ih =>
              intro i K T hd h1 h2 h3
              refine y_iload (pc' := 51) hB dc_M_fill_49 rfl 0 rfl ?_
              refine y_iload_n (pc' := 52) hB dc_M_fill_51 rfl rfl 3 rfl ?_
              refine n_icmp_ge (pc' := 55) (tg := 100) hB dc_M_fill_52 rfl rfl (by omega) (by omega) (fun c1 => ?_) (fun c1 => ?_)
              · have e : i = m := by omega
                subst e
                skip
                refine y_aload_n (pc' := 101) hB dc_M_fill_100 rfl rfl 1 rfl ?_
                refine f_M_sizes (pc' := 104) hB dc_M_fill_101 rfl q_642 ?_
                refine y_iload_n (pc' := 105) hB dc_M_fill_104 rfl rfl 2 rfl ?_
                refine y_iload_n (pc' := 106) hB dc_M_fill_105 rfl rfl 3 rfl ?_
                refine y_iast (c := 27) (n := 4) (j := k) (pc' := 107) hB dc_M_fill_106 rfl (by decide) rfl (by omega) (by decide) ?_
                rw [mK_I _ _ _ (by decide)]
                show yW o (sI (mK (yx S 0) K T) 27 (upd (gI S 27) k (nI i))) 107 [(7, .int (nI (i))), (0, .ref (o.G.ad (24))), (1, .int (nI (k))), (2, .int (nI (i))), (3, .int (nI (kd))), (4, .long (a)), (6, .int (s))] []
                refine y_iload (pc' := 109) hB dc_M_fill_107 rfl 6 rfl ?_
                refine y_i2l (v := Int32.toInt64 (s)) (pc' := 110) hB dc_M_fill_109 rfl rfl ?_
                refine y_lstore (pc' := 112) (lv' := [(7, .long (Int32.toInt64 (s))), (0, .ref (o.G.ad (24))), (1, .int (nI (k))), (2, .int (nI (i))), (3, .int (nI (kd))), (4, .long (a)), (6, .int (s))]) hB hm dc_M_fill_110 rfl (by decide) rfl ?_
                by_cases k5 : kd = 5
                · by_cases h0 : 0 < s.toInt
                  · refine y_sub [0, 1, 2, 3, 4, 5, 6] rfl ?_
                    refine loop (i + 1) s.toInt.toNat (Int32.toInt64 s) K T (i + 1) (by omega) h0 k5 (by rw [Int32.toInt_toInt64]; omega) (by omega) (by omega) (fun j hj => ?_) h3
                    unfold zfl5 zcq
                    rw [if_pos k5, if_pos h0]
                    exact zcn_congr _ _ _ _ h2 j hj
                  · refine y_iload_n (pc' := 113) hB dc_M_fill_112 rfl rfl 4 rfl ?_
                    refine y_iconst (v := nI 5) (pc' := 114) hB dc_M_fill_113 rfl rfl ?_
                    refine n_icmp_ne (pc' := 117) (tg := 190) hB dc_M_fill_114 rfl rfl (by omega) (by omega) (fun c2 => ?_) (fun c2 => ?_)
                    · omega
                    · refine y_iload (pc' := 119) hB dc_M_fill_117 rfl 6 rfl ?_
                      refine y_if_le (x := s) (pc' := 122) (tg := 190) hB dc_M_fill_119 rfl rfl (fun c3 => ?_) (fun c3 => ?_)
                      · exact done K T (fun j hj => by unfold zfl5 zcq; rw [if_pos k5, if_neg h0]; exact h2 j hj) h3 _
                      · exact absurd (Int32.le_iff_toInt_le.mpr (show s.toInt ≤ (0 : Int32).toInt by show s.toInt ≤ 0; omega)) c3
                · refine y_iload_n (pc' := 113) hB dc_M_fill_112 rfl rfl 4 rfl ?_
                  refine y_iconst (v := nI 5) (pc' := 114) hB dc_M_fill_113 rfl rfl ?_
                  refine n_icmp_ne (pc' := 117) (tg := 190) hB dc_M_fill_114 rfl rfl (by omega) (by omega) (fun c2 => ?_) (fun c2 => ?_)
                  · exact done K T (fun j hj => by unfold zfl5; rw [if_neg k5]; exact h2 j hj) h3 _
                  · omega
              · refine y_aload_n (pc' := 56) hB dc_M_fill_55 rfl rfl 1 rfl ?_
                refine f_M_keys (pc' := 59) hB dc_M_fill_56 rfl q_640 ?_
                refine y_sipush (v := nI 1024) (pc' := 62) hB dc_M_fill_59 rfl (by decide) ?_
                refine y_iload_n (pc' := 63) hB dc_M_fill_62 rfl rfl 2 rfl ?_
                refine n_imul (x := 1024) (y := k) (pc' := 64) hB dc_M_fill_63 rfl ?_
                refine y_iload (pc' := 66) hB dc_M_fill_64 rfl 0 rfl ?_
                refine n_iadd (x := 1024 * k) (y := i) (pc' := 67) hB dc_M_fill_66 rfl ?_
                refine y_iload_n (pc' := 68) hB dc_M_fill_67 rfl rfl 3 rfl ?_
                refine y_iload_n (pc' := 69) hB dc_M_fill_68 rfl rfl 4 rfl ?_
                refine y_lload (pc' := 71) hB dc_M_fill_69 rfl 5 rfl ?_
                refine y_iload (pc' := 73) hB dc_M_fill_71 rfl 6 rfl ?_
                refine y_iload (pc' := 75) hB dc_M_fill_73 rfl 0 rfl ?_
                refine y_callS (As := [.int (nI (m)), .int (nI (kd)), .long (a), .int (s), .int (nI (i))]) (rest := [.int (nI ((1024 * k) + i)), .ref (o.G.ad (25))]) (pc' := 78) hB hE (ct_M_filled o.l o.G (mK (yx S 0) K T) m kd hkd hm2 a s i c1) mm_M_filled q_680 q_681 dc_M_fill_75 rfl (by decide) rfl rfl (Nat.le_of_ble_eq_true rfl) (fun v S' hpost => ?_)
                obtain ⟨rfl, hSS⟩ := hpost
                rw [hSS]
                clear hSS S'
                show yW o (mK (yx S 0) K T) 78 [(7, .int (nI (i))), (0, .ref (o.G.ad (24))), (1, .int (nI (k))), (2, .int (nI (m))), (3, .int (nI (kd))), (4, .long (a)), (6, .int (s))] [.long (zkk kd m i a s), .int (nI ((1024 * k) + i)), .ref (o.G.ad (25))]
                refine y_last (c := 25) (n := 4096) (j := (1024 * k) + i) (pc' := 79) hB dc_M_fill_78 rfl (by decide) rfl (by omega) (by decide) ?_
                refine y_aload_n (pc' := 80) hB dc_M_fill_79 rfl rfl 1 rfl ?_
                refine f_M_tags (pc' := 83) hB dc_M_fill_80 rfl q_641 ?_
                refine y_sipush (v := nI 1024) (pc' := 86) hB dc_M_fill_83 rfl (by decide) ?_
                refine y_iload_n (pc' := 87) hB dc_M_fill_86 rfl rfl 2 rfl ?_
                refine n_imul (x := 1024) (y := k) (pc' := 88) hB dc_M_fill_87 rfl ?_
                refine y_iload (pc' := 90) hB dc_M_fill_88 rfl 0 rfl ?_
                refine n_iadd (x := 1024 * k) (y := i) (pc' := 91) hB dc_M_fill_90 rfl ?_
                refine y_iload (pc' := 93) hB dc_M_fill_91 rfl 0 rfl ?_
                refine y_iast (c := 26) (n := 4096) (j := (1024 * k) + i) (pc' := 94) hB dc_M_fill_93 rfl (by decide) rfl (by omega) (by decide) ?_
                rw [gI_sL, mK_K, mK_T, mK_put]
                show yW o (mK (yx S 0) (vp_updL K (1024 * k + i) (zkk kd m i a s)) (upd T (1024 * k + i) (nI i))) 94 [(7, .int (nI (i))), (0, .ref (o.G.ad (24))), (1, .int (nI (k))), (2, .int (nI (m))), (3, .int (nI (kd))), (4, .long (a)), (6, .int (s))] []
                refine n_inc (q := 0) (z := 1) (pc' := 97) (lv' := [(7, .int (nI (i + 1))), (0, .ref (o.G.ad (24))), (1, .int (nI (k))), (2, .int (nI (m))), (3, .int (nI (kd))), (4, .long (a)), (6, .int (s))]) hB hm dc_M_fill_94 rfl rfl (by decide) rfl ?_
                refine y_goto (tg := 49) hB dc_M_fill_97 rfl ?_
                refine y_sub [0, 1, 2, 3, 4, 5, 6] rfl ?_
                refine ih (i + 1) _ _ (by omega) c1 (fun j hj => ?_) (fun j hj => ?_)
                · unfold vp_updL upd
                  by_cases e : j = i
                  · rw [if_pos (by omega), if_pos (by omega), e]; rfl
                  · rw [if_neg (by omega), if_neg (by omega)]; exact h2 j (by omega)
                · unfold vp_updL upd
                  rw [if_neg (by omega), if_neg (by omega)]; exact h3 j (by omega)
          have hz := first (m + 1) 0 (gL (yx S 0) 25) (gI (yx S 0) 26) (by omega) (by omega) (fun j hj => by omega) (fun j _ => ⟨rfl, rfl⟩)
          rw [mK_self] at hz
          exact hz
        · omega
      · omega
  · exact absurd rfl b1
