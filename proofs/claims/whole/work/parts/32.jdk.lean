/-! JDK: Long.bitCount, Long.compare, Integer.compare, Arrays.fill -/
theorem dc_jL_bitCount_0 : decode mb_jL_bitCount 0 = .ok (.lload_n 0, 1) := by decide +kernel
theorem dc_jL_bitCount_1 : decode mb_jL_bitCount 1 = .ok (.lload_n 0, 1) := by decide +kernel
theorem dc_jL_bitCount_2 : decode mb_jL_bitCount 2 = .ok (.iconst 1, 1) := by decide +kernel
theorem dc_jL_bitCount_3 : decode mb_jL_bitCount 3 = .ok (.lushr, 1) := by decide +kernel
theorem dc_jL_bitCount_4 : decode mb_jL_bitCount 4 = .ok (.ldc2_w 314, 3) := by decide +kernel
theorem dc_jL_bitCount_7 : decode mb_jL_bitCount 7 = .ok (.land, 1) := by decide +kernel
theorem dc_jL_bitCount_8 : decode mb_jL_bitCount 8 = .ok (.lsub, 1) := by decide +kernel
theorem dc_jL_bitCount_9 : decode mb_jL_bitCount 9 = .ok (.lstore_n 0, 1) := by decide +kernel
theorem dc_jL_bitCount_10 : decode mb_jL_bitCount 10 = .ok (.lload_n 0, 1) := by decide +kernel
theorem dc_jL_bitCount_11 : decode mb_jL_bitCount 11 = .ok (.ldc2_w 316, 3) := by decide +kernel
theorem dc_jL_bitCount_14 : decode mb_jL_bitCount 14 = .ok (.land, 1) := by decide +kernel
theorem dc_jL_bitCount_15 : decode mb_jL_bitCount 15 = .ok (.lload_n 0, 1) := by decide +kernel
theorem dc_jL_bitCount_16 : decode mb_jL_bitCount 16 = .ok (.iconst 2, 1) := by decide +kernel
theorem dc_jL_bitCount_17 : decode mb_jL_bitCount 17 = .ok (.lushr, 1) := by decide +kernel
theorem dc_jL_bitCount_18 : decode mb_jL_bitCount 18 = .ok (.ldc2_w 316, 3) := by decide +kernel
theorem dc_jL_bitCount_21 : decode mb_jL_bitCount 21 = .ok (.land, 1) := by decide +kernel
theorem dc_jL_bitCount_22 : decode mb_jL_bitCount 22 = .ok (.ladd, 1) := by decide +kernel
theorem dc_jL_bitCount_23 : decode mb_jL_bitCount 23 = .ok (.lstore_n 0, 1) := by decide +kernel
theorem dc_jL_bitCount_24 : decode mb_jL_bitCount 24 = .ok (.lload_n 0, 1) := by decide +kernel
theorem dc_jL_bitCount_25 : decode mb_jL_bitCount 25 = .ok (.lload_n 0, 1) := by decide +kernel
theorem dc_jL_bitCount_26 : decode mb_jL_bitCount 26 = .ok (.iconst 4, 1) := by decide +kernel
theorem dc_jL_bitCount_27 : decode mb_jL_bitCount 27 = .ok (.lushr, 1) := by decide +kernel
theorem dc_jL_bitCount_28 : decode mb_jL_bitCount 28 = .ok (.ladd, 1) := by decide +kernel
theorem dc_jL_bitCount_29 : decode mb_jL_bitCount 29 = .ok (.ldc2_w 318, 3) := by decide +kernel
theorem dc_jL_bitCount_32 : decode mb_jL_bitCount 32 = .ok (.land, 1) := by decide +kernel
theorem dc_jL_bitCount_33 : decode mb_jL_bitCount 33 = .ok (.lstore_n 0, 1) := by decide +kernel
theorem dc_jL_bitCount_34 : decode mb_jL_bitCount 34 = .ok (.lload_n 0, 1) := by decide +kernel
theorem dc_jL_bitCount_35 : decode mb_jL_bitCount 35 = .ok (.lload_n 0, 1) := by decide +kernel
theorem dc_jL_bitCount_36 : decode mb_jL_bitCount 36 = .ok (.bipush 8, 2) := by decide +kernel
theorem dc_jL_bitCount_38 : decode mb_jL_bitCount 38 = .ok (.lushr, 1) := by decide +kernel
theorem dc_jL_bitCount_39 : decode mb_jL_bitCount 39 = .ok (.ladd, 1) := by decide +kernel
theorem dc_jL_bitCount_40 : decode mb_jL_bitCount 40 = .ok (.lstore_n 0, 1) := by decide +kernel
theorem dc_jL_bitCount_41 : decode mb_jL_bitCount 41 = .ok (.lload_n 0, 1) := by decide +kernel
theorem dc_jL_bitCount_42 : decode mb_jL_bitCount 42 = .ok (.lload_n 0, 1) := by decide +kernel
theorem dc_jL_bitCount_43 : decode mb_jL_bitCount 43 = .ok (.bipush 16, 2) := by decide +kernel
theorem dc_jL_bitCount_45 : decode mb_jL_bitCount 45 = .ok (.lushr, 1) := by decide +kernel
theorem dc_jL_bitCount_46 : decode mb_jL_bitCount 46 = .ok (.ladd, 1) := by decide +kernel
theorem dc_jL_bitCount_47 : decode mb_jL_bitCount 47 = .ok (.lstore_n 0, 1) := by decide +kernel
theorem dc_jL_bitCount_48 : decode mb_jL_bitCount 48 = .ok (.lload_n 0, 1) := by decide +kernel
theorem dc_jL_bitCount_49 : decode mb_jL_bitCount 49 = .ok (.lload_n 0, 1) := by decide +kernel
theorem dc_jL_bitCount_50 : decode mb_jL_bitCount 50 = .ok (.bipush 32, 2) := by decide +kernel
theorem dc_jL_bitCount_52 : decode mb_jL_bitCount 52 = .ok (.lushr, 1) := by decide +kernel
theorem dc_jL_bitCount_53 : decode mb_jL_bitCount 53 = .ok (.ladd, 1) := by decide +kernel
theorem dc_jL_bitCount_54 : decode mb_jL_bitCount 54 = .ok (.lstore_n 0, 1) := by decide +kernel
theorem dc_jL_bitCount_55 : decode mb_jL_bitCount 55 = .ok (.lload_n 0, 1) := by decide +kernel
theorem dc_jL_bitCount_56 : decode mb_jL_bitCount 56 = .ok (.l2i, 1) := by decide +kernel
theorem dc_jL_bitCount_57 : decode mb_jL_bitCount 57 = .ok (.bipush 127, 2) := by decide +kernel
theorem dc_jL_bitCount_59 : decode mb_jL_bitCount 59 = .ok (.iand, 1) := by decide +kernel
theorem dc_jL_bitCount_60 : decode mb_jL_bitCount 60 = .ok (.ireturn, 1) := by decide +kernel
theorem zz_pop {x a1 a2 a3 a4 a5 a6 : Int64} (h1 : a1 = x - ((x.toUInt64 >>> ((nI 1).toInt64.toUInt64 &&& Int64.toUInt64 63)).toInt64 &&& 6148914691236517205))
    (h2 : a2 = (a1 &&& 3689348814741910323) + ((a1.toUInt64 >>> ((nI 2).toInt64.toUInt64 &&& Int64.toUInt64 63)).toInt64 &&& 3689348814741910323))
    (h3 : a3 = (a2 + (a2.toUInt64 >>> ((nI 4).toInt64.toUInt64 &&& Int64.toUInt64 63)).toInt64) &&& 1085102592571150095)
    (h4 : a4 = a3 + (a3.toUInt64 >>> ((nI 8).toInt64.toUInt64 &&& Int64.toUInt64 63)).toInt64)
    (h5 : a5 = a4 + (a4.toUInt64 >>> ((nI 16).toInt64.toUInt64 &&& Int64.toUInt64 63)).toInt64)
    (h6 : a6 = a5 + (a5.toUInt64 >>> ((nI 32).toInt64.toUInt64 &&& Int64.toUInt64 63)).toInt64) : Int64.toInt32 a6 &&& nI 127 = nI (zn x 64) := by
  have hu := uN_lt x
  have e1 : uN a1 = zyA 8 (uN x) := by
    have hm : uN 6148914691236517205 = zyM 85 8 := by decide
    have ha : uN ((x.toUInt64 >>> ((nI 1).toInt64.toUInt64 &&& Int64.toUInt64 63)).toInt64 &&& 6148914691236517205) = (uN x / 2) &&& zyM 85 8 := by
      rw [uN_and, uN_sk x (by decide), hm]
    have hle : (uN x / 2 &&& zyM 85 8) ≤ uN x / 2 := Nat.and_le_left
    rw [h1, uN_sub (by rw [ha]; omega), ha]
    rfl
  have m3 : uN 3689348814741910323 = zyM 51 8 := by decide
  have m3v : zyM 51 8 = 3689348814741910323 := by decide
  have e2 : uN a2 = zyB 8 (uN a1) := by
    have l1 : (uN a1 &&& zyM 51 8) ≤ zyM 51 8 := Nat.and_le_right
    have l2 : (uN a1 / 2 ^ 2 &&& zyM 51 8) ≤ zyM 51 8 := Nat.and_le_right
    rw [h2, uN_add, uN_and, uN_and, uN_sk a1 (by decide), m3, Nat.mod_eq_of_lt (by omega)]
    rfl
  have b2 : uN a2 ≤ 7378697629483820646 := by
    have l1 : (uN a1 &&& zyM 51 8) ≤ zyM 51 8 := Nat.and_le_right
    have l2 : (uN a1 / 4 &&& zyM 51 8) ≤ zyM 51 8 := Nat.and_le_right
    rw [e2]
    unfold zyB
    omega
  have e3 : uN a3 = zyC 8 (uN a2) := by
    have hm : uN 1085102592571150095 = zyM 15 8 := by decide
    rw [h3, uN_and, uN_add, uN_sk a2 (by decide), hm, Nat.mod_eq_of_lt (by omega)]
    rfl
  have ev : uN x = (((((((uN x / 72057594037927936) * 256 + uN x / 281474976710656 % 256) * 256 + uN x / 1099511627776 % 256) * 256 + uN x / 4294967296 % 256) * 256 + uN x / 16777216 % 256) * 256 + uN x / 65536 % 256) * 256 + uN x / 256 % 256) * 256 + uN x % 256 := by omega
  have hs := zn_sum x
  rw [← uN_zu] at hs
  have h7 : uN x / 72057594037927936 % 256 = uN x / 72057594037927936 := by omega
  rw [h7] at hs
  have et := e3
  rw [e2, e1] at et
  generalize hb7 : uN x / 72057594037927936 = b7 at ev hs h7
  generalize hb6 : uN x / 281474976710656 % 256 = b6 at ev hs
  generalize hb5 : uN x / 1099511627776 % 256 = b5 at ev hs
  generalize hb4 : uN x / 4294967296 % 256 = b4 at ev hs
  generalize hb3 : uN x / 16777216 % 256 = b3 at ev hs
  generalize hb2 : uN x / 65536 % 256 = b2' at ev hs
  generalize hb1 : uN x / 256 % 256 = b1 at ev hs
  generalize hb0 : uN x % 256 = b0 at ev hs
  rw [ev, zyF_8 (by omega) (by omega) (by omega) (by omega) (by omega) (by omega) (by omega) (by omega)] at et
  have k0 := zy8_le b0
  have k1 := zy8_le b1
  have k2 := zy8_le b2'
  have k3 := zy8_le b3
  have k4 := zy8_le b4
  have k5 := zy8_le b5
  have k6 := zy8_le b6
  have k7 := zy8_le b7
  clear hb0 hb1 hb2 hb3 hb4 hb5 hb6 hb7 ev e1 e2 e3 b2 m3 m3v h1 h2 h3 hu h7
  generalize zy8 b0 = p0 at *
  generalize zy8 b1 = p1 at *
  generalize zy8 b2' = p2 at *
  generalize zy8 b3 = p3 at *
  generalize zy8 b4 = p4 at *
  generalize zy8 b5 = p5 at *
  generalize zy8 b6 = p6 at *
  generalize zy8 b7 = p7 at *
  obtain ⟨u6, g6⟩ : ∃ u, u = p7 * 256 + p6 := ⟨_, rfl⟩
  rw [← g6] at et
  obtain ⟨u5, g5⟩ : ∃ u, u = u6 * 256 + p5 := ⟨_, rfl⟩
  rw [← g5] at et
  obtain ⟨u4, g4⟩ : ∃ u, u = u5 * 256 + p4 := ⟨_, rfl⟩
  rw [← g4] at et
  obtain ⟨u3, g3⟩ : ∃ u, u = u4 * 256 + p3 := ⟨_, rfl⟩
  rw [← g3] at et
  obtain ⟨u2, g2⟩ : ∃ u, u = u3 * 256 + p2 := ⟨_, rfl⟩
  rw [← g2] at et
  obtain ⟨u1, g1⟩ : ∃ u, u = u2 * 256 + p1 := ⟨_, rfl⟩
  rw [← g1] at et
  have v6 : u6 ≤ 2056 := by omega
  have v5 : u5 ≤ 526344 := by omega
  have v4 : u4 ≤ 134744072 := by omega
  have v3 : u3 ≤ 34494482440 := by omega
  have v2 : u2 ≤ 8830587504648 := by omega
  have v1 : u1 ≤ 2260630401189896 := by omega
  have v0 : uN a3 ≤ 578721382704613384 := by omega
  have w4 : uN a4 = uN a3 + uN a3 / 256 := by
    rw [h4, uN_add, uN_sk a3 (by decide), Nat.mod_eq_of_lt (by omega)]
  have w5 : uN a5 = uN a4 + uN a4 / 65536 := by
    rw [h5, uN_add, uN_sk a4 (by decide), Nat.mod_eq_of_lt (by omega)]
  have w6 : uN a6 = uN a5 + uN a5 / 4294967296 := by
    rw [h6, uN_add, uN_sk a5 (by decide), Nat.mod_eq_of_lt (by omega)]
  have wt := zy_end k0 k1 k2 k3 k4 k5 k6 k7 g6 g5 g4 g3 g2 g1 et w4 w5 w6
  have wm := zy_mod k0 k1 k2 k3 k4 k5 k6 k7 g6 g5 g4 g3 g2 g1 et
  rw [← wt] at wm
  have hc : (Int64.toInt32 a6).toBitVec.toNat = uN a6 % 2 ^ 32 := by
    show (BitVec.signExtend 32 a6.toBitVec).toNat = _
    rw [BitVec.signExtend_eq_setWidth_of_le _ (by decide), BitVec.toNat_setWidth]
    rfl
  rw [pk_and (Int64.toInt32 a6) 7 (by decide), hc, hs]
  congr 1
  omega
set_option maxHeartbeats 4000000 in
set_option maxRecDepth 100000 in
theorem ct_jL_bitCount (l : Launch) (g : YG) (S : YS) (x : Int64) : yC l mn_jL_bitCount mb_jL_bitCount 2 (some .int) 0 g [.long (x)] S (fun v S' => v = some (.int (nI (zn x 64))) ∧ S' = S) := by
  refine yC_of (by decide) (Nat.le_of_ble_eq_true rfl) ?_
  intro o hl hg hB0 hE
  subst hl
  subst hg
  have hB : yB o mb_jL_bitCount "java/lang/Long" := hB0
  have hm := hE.1
  show yW o (S) 0 [(0, .long (x))] []
  refine y_lload_n (pc' := 1) hB dc_jL_bitCount_0 rfl rfl 0 rfl ?_
  refine y_lload_n (pc' := 2) hB dc_jL_bitCount_1 rfl rfl 0 rfl ?_
  refine y_iconst (v := nI 1) (pc' := 3) hB dc_jL_bitCount_2 rfl rfl ?_
  refine y_lushr (v := (Int64.toUInt64 (x) >>> (Int64.toUInt64 (Int32.toInt64 (nI (1))) &&& Int64.toUInt64 63)).toInt64) (pc' := 4) hB dc_jL_bitCount_3 rfl rfl ?_
  refine y_ldc2 (v := 6148914691236517205) (pc' := 7) hB dc_jL_bitCount_4 rfl q_386 ?_
  refine y_land (v := ((Int64.toUInt64 (x) >>> (Int64.toUInt64 (Int32.toInt64 (nI (1))) &&& Int64.toUInt64 63)).toInt64) &&& 6148914691236517205) (pc' := 8) hB dc_jL_bitCount_7 rfl rfl ?_
  refine y_lsub (v := x - (((Int64.toUInt64 (x) >>> (Int64.toUInt64 (Int32.toInt64 (nI (1))) &&& Int64.toUInt64 63)).toInt64) &&& 6148914691236517205)) (pc' := 9) hB dc_jL_bitCount_8 rfl rfl ?_
  obtain ⟨a1, ha1⟩ : ∃ z : Int64, z = x - (((Int64.toUInt64 (x) >>> (Int64.toUInt64 (Int32.toInt64 (nI (1))) &&& Int64.toUInt64 63)).toInt64) &&& 6148914691236517205) := ⟨_, rfl⟩
  refine y_topl (y := a1) ha1.symm ?_
  refine y_lstore_n (pc' := 10) (lv' := [(0, .long (a1))]) hB hm dc_jL_bitCount_9 rfl rfl (by decide) rfl ?_
  refine y_lload_n (pc' := 11) hB dc_jL_bitCount_10 rfl rfl 0 rfl ?_
  refine y_ldc2 (v := 3689348814741910323) (pc' := 14) hB dc_jL_bitCount_11 rfl q_387 ?_
  refine y_land (v := a1 &&& 3689348814741910323) (pc' := 15) hB dc_jL_bitCount_14 rfl rfl ?_
  refine y_lload_n (pc' := 16) hB dc_jL_bitCount_15 rfl rfl 0 rfl ?_
  refine y_iconst (v := nI 2) (pc' := 17) hB dc_jL_bitCount_16 rfl rfl ?_
  refine y_lushr (v := (Int64.toUInt64 (a1) >>> (Int64.toUInt64 (Int32.toInt64 (nI (2))) &&& Int64.toUInt64 63)).toInt64) (pc' := 18) hB dc_jL_bitCount_17 rfl rfl ?_
  refine y_ldc2 (v := 3689348814741910323) (pc' := 21) hB dc_jL_bitCount_18 rfl q_387 ?_
  refine y_land (v := ((Int64.toUInt64 (a1) >>> (Int64.toUInt64 (Int32.toInt64 (nI (2))) &&& Int64.toUInt64 63)).toInt64) &&& 3689348814741910323) (pc' := 22) hB dc_jL_bitCount_21 rfl rfl ?_
  refine y_ladd (v := (a1 &&& 3689348814741910323) + (((Int64.toUInt64 (a1) >>> (Int64.toUInt64 (Int32.toInt64 (nI (2))) &&& Int64.toUInt64 63)).toInt64) &&& 3689348814741910323)) (pc' := 23) hB dc_jL_bitCount_22 rfl rfl ?_
  obtain ⟨a2, ha2⟩ : ∃ z : Int64, z = (a1 &&& 3689348814741910323) + (((Int64.toUInt64 (a1) >>> (Int64.toUInt64 (Int32.toInt64 (nI (2))) &&& Int64.toUInt64 63)).toInt64) &&& 3689348814741910323) := ⟨_, rfl⟩
  refine y_topl (y := a2) ha2.symm ?_
  refine y_lstore_n (pc' := 24) (lv' := [(0, .long (a2))]) hB hm dc_jL_bitCount_23 rfl rfl (by decide) rfl ?_
  refine y_lload_n (pc' := 25) hB dc_jL_bitCount_24 rfl rfl 0 rfl ?_
  refine y_lload_n (pc' := 26) hB dc_jL_bitCount_25 rfl rfl 0 rfl ?_
  refine y_iconst (v := nI 4) (pc' := 27) hB dc_jL_bitCount_26 rfl rfl ?_
  refine y_lushr (v := (Int64.toUInt64 (a2) >>> (Int64.toUInt64 (Int32.toInt64 (nI (4))) &&& Int64.toUInt64 63)).toInt64) (pc' := 28) hB dc_jL_bitCount_27 rfl rfl ?_
  refine y_ladd (v := a2 + ((Int64.toUInt64 (a2) >>> (Int64.toUInt64 (Int32.toInt64 (nI (4))) &&& Int64.toUInt64 63)).toInt64)) (pc' := 29) hB dc_jL_bitCount_28 rfl rfl ?_
  refine y_ldc2 (v := 1085102592571150095) (pc' := 32) hB dc_jL_bitCount_29 rfl q_388 ?_
  refine y_land (v := (a2 + ((Int64.toUInt64 (a2) >>> (Int64.toUInt64 (Int32.toInt64 (nI (4))) &&& Int64.toUInt64 63)).toInt64)) &&& 1085102592571150095) (pc' := 33) hB dc_jL_bitCount_32 rfl rfl ?_
  obtain ⟨a3, ha3⟩ : ∃ z : Int64, z = (a2 + ((Int64.toUInt64 (a2) >>> (Int64.toUInt64 (Int32.toInt64 (nI (4))) &&& Int64.toUInt64 63)).toInt64)) &&& 1085102592571150095 := ⟨_, rfl⟩
  refine y_topl (y := a3) ha3.symm ?_
  refine y_lstore_n (pc' := 34) (lv' := [(0, .long (a3))]) hB hm dc_jL_bitCount_33 rfl rfl (by decide) rfl ?_
  refine y_lload_n (pc' := 35) hB dc_jL_bitCount_34 rfl rfl 0 rfl ?_
  refine y_lload_n (pc' := 36) hB dc_jL_bitCount_35 rfl rfl 0 rfl ?_
  refine y_bipush (v := nI 8) (pc' := 38) hB dc_jL_bitCount_36 rfl (by decide) ?_
  refine y_lushr (v := (Int64.toUInt64 (a3) >>> (Int64.toUInt64 (Int32.toInt64 (nI (8))) &&& Int64.toUInt64 63)).toInt64) (pc' := 39) hB dc_jL_bitCount_38 rfl rfl ?_
  refine y_ladd (v := a3 + ((Int64.toUInt64 (a3) >>> (Int64.toUInt64 (Int32.toInt64 (nI (8))) &&& Int64.toUInt64 63)).toInt64)) (pc' := 40) hB dc_jL_bitCount_39 rfl rfl ?_
  obtain ⟨a4, ha4⟩ : ∃ z : Int64, z = a3 + ((Int64.toUInt64 (a3) >>> (Int64.toUInt64 (Int32.toInt64 (nI (8))) &&& Int64.toUInt64 63)).toInt64) := ⟨_, rfl⟩
  refine y_topl (y := a4) ha4.symm ?_
  refine y_lstore_n (pc' := 41) (lv' := [(0, .long (a4))]) hB hm dc_jL_bitCount_40 rfl rfl (by decide) rfl ?_
  refine y_lload_n (pc' := 42) hB dc_jL_bitCount_41 rfl rfl 0 rfl ?_
  refine y_lload_n (pc' := 43) hB dc_jL_bitCount_42 rfl rfl 0 rfl ?_
  refine y_bipush (v := nI 16) (pc' := 45) hB dc_jL_bitCount_43 rfl (by decide) ?_
  refine y_lushr (v := (Int64.toUInt64 (a4) >>> (Int64.toUInt64 (Int32.toInt64 (nI (16))) &&& Int64.toUInt64 63)).toInt64) (pc' := 46) hB dc_jL_bitCount_45 rfl rfl ?_
  refine y_ladd (v := a4 + ((Int64.toUInt64 (a4) >>> (Int64.toUInt64 (Int32.toInt64 (nI (16))) &&& Int64.toUInt64 63)).toInt64)) (pc' := 47) hB dc_jL_bitCount_46 rfl rfl ?_
  obtain ⟨a5, ha5⟩ : ∃ z : Int64, z = a4 + ((Int64.toUInt64 (a4) >>> (Int64.toUInt64 (Int32.toInt64 (nI (16))) &&& Int64.toUInt64 63)).toInt64) := ⟨_, rfl⟩
  refine y_topl (y := a5) ha5.symm ?_
  refine y_lstore_n (pc' := 48) (lv' := [(0, .long (a5))]) hB hm dc_jL_bitCount_47 rfl rfl (by decide) rfl ?_
  refine y_lload_n (pc' := 49) hB dc_jL_bitCount_48 rfl rfl 0 rfl ?_
  refine y_lload_n (pc' := 50) hB dc_jL_bitCount_49 rfl rfl 0 rfl ?_
  refine y_bipush (v := nI 32) (pc' := 52) hB dc_jL_bitCount_50 rfl (by decide) ?_
  refine y_lushr (v := (Int64.toUInt64 (a5) >>> (Int64.toUInt64 (Int32.toInt64 (nI (32))) &&& Int64.toUInt64 63)).toInt64) (pc' := 53) hB dc_jL_bitCount_52 rfl rfl ?_
  refine y_ladd (v := a5 + ((Int64.toUInt64 (a5) >>> (Int64.toUInt64 (Int32.toInt64 (nI (32))) &&& Int64.toUInt64 63)).toInt64)) (pc' := 54) hB dc_jL_bitCount_53 rfl rfl ?_
  obtain ⟨a6, ha6⟩ : ∃ z : Int64, z = a5 + ((Int64.toUInt64 (a5) >>> (Int64.toUInt64 (Int32.toInt64 (nI (32))) &&& Int64.toUInt64 63)).toInt64) := ⟨_, rfl⟩
  refine y_topl (y := a6) ha6.symm ?_
  refine y_lstore_n (pc' := 55) (lv' := [(0, .long (a6))]) hB hm dc_jL_bitCount_54 rfl rfl (by decide) rfl ?_
  refine y_lload_n (pc' := 56) hB dc_jL_bitCount_55 rfl rfl 0 rfl ?_
  refine y_l2i (v := Int64.toInt32 (a6)) (pc' := 57) hB dc_jL_bitCount_56 rfl rfl ?_
  refine y_bipush (v := nI 127) (pc' := 59) hB dc_jL_bitCount_57 rfl (by decide) ?_
  refine y_iand (v := (Int64.toInt32 (a6)) &&& (nI (127))) (pc' := 60) hB dc_jL_bitCount_59 rfl rfl ?_
  exact y_iret hB hE dc_jL_bitCount_60 ⟨congrArg (fun z => some (Value.int z)) (zz_pop ha1 ha2 ha3 ha4 ha5 ha6), rfl⟩
