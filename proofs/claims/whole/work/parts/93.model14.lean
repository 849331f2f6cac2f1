/-! REFERENCE: filled -/
theorem dc_M_filled_0 : decode mb_M_filled 0 = .ok (.iload_n 1, 1) := by decide +kernel
theorem dc_M_filled_1 : decode mb_M_filled 1 = .ok (.tableswitch 112 1 4 #[31, 45, 72, 72], 31) := by decide +kernel
theorem dc_M_filled_32 : decode mb_M_filled 32 = .ok (.lload_n 2, 1) := by decide +kernel
theorem dc_M_filled_33 : decode mb_M_filled 33 = .ok (.iload_n 0, 1) := by decide +kernel
theorem dc_M_filled_34 : decode mb_M_filled 34 = .ok (.iconst 1, 1) := by decide +kernel
theorem dc_M_filled_35 : decode mb_M_filled 35 = .ok (.isub, 1) := by decide +kernel
theorem dc_M_filled_36 : decode mb_M_filled 36 = .ok (.iload 5, 2) := by decide +kernel
theorem dc_M_filled_38 : decode mb_M_filled 38 = .ok (.isub, 1) := by decide +kernel
theorem dc_M_filled_39 : decode mb_M_filled 39 = .ok (.i2l, 1) := by decide +kernel
theorem dc_M_filled_40 : decode mb_M_filled 40 = .ok (.iload 4, 2) := by decide +kernel
theorem dc_M_filled_42 : decode mb_M_filled 42 = .ok (.i2l, 1) := by decide +kernel
theorem dc_M_filled_43 : decode mb_M_filled 43 = .ok (.lmul, 1) := by decide +kernel
theorem dc_M_filled_44 : decode mb_M_filled 44 = .ok (.ladd, 1) := by decide +kernel
theorem dc_M_filled_45 : decode mb_M_filled 45 = .ok (.lreturn, 1) := by decide +kernel
theorem dc_M_filled_46 : decode mb_M_filled 46 = .ok (.lload_n 2, 1) := by decide +kernel
theorem dc_M_filled_47 : decode mb_M_filled 47 = .ok (.iload 5, 2) := by decide +kernel
theorem dc_M_filled_49 : decode mb_M_filled 49 = .ok (.iload_n 0, 1) := by decide +kernel
theorem dc_M_filled_50 : decode mb_M_filled 50 = .ok (.iconst 2, 1) := by decide +kernel
theorem dc_M_filled_51 : decode mb_M_filled 51 = .ok (.idiv, 1) := by decide +kernel
theorem dc_M_filled_52 : decode mb_M_filled 52 = .ok (.if_icmp .ge 8, 3) := by decide +kernel
theorem dc_M_filled_55 : decode mb_M_filled 55 = .ok (.iload 5, 2) := by decide +kernel
theorem dc_M_filled_57 : decode mb_M_filled 57 = .ok (.goto 9, 3) := by decide +kernel
theorem dc_M_filled_60 : decode mb_M_filled 60 = .ok (.iload 5, 2) := by decide +kernel
theorem dc_M_filled_62 : decode mb_M_filled 62 = .ok (.iload_n 0, 1) := by decide +kernel
theorem dc_M_filled_63 : decode mb_M_filled 63 = .ok (.iconst 2, 1) := by decide +kernel
theorem dc_M_filled_64 : decode mb_M_filled 64 = .ok (.idiv, 1) := by decide +kernel
theorem dc_M_filled_65 : decode mb_M_filled 65 = .ok (.isub, 1) := by decide +kernel
theorem dc_M_filled_66 : decode mb_M_filled 66 = .ok (.i2l, 1) := by decide +kernel
theorem dc_M_filled_67 : decode mb_M_filled 67 = .ok (.iload 4, 2) := by decide +kernel
theorem dc_M_filled_69 : decode mb_M_filled 69 = .ok (.i2l, 1) := by decide +kernel
theorem dc_M_filled_70 : decode mb_M_filled 70 = .ok (.lmul, 1) := by decide +kernel
theorem dc_M_filled_71 : decode mb_M_filled 71 = .ok (.ladd, 1) := by decide +kernel
theorem dc_M_filled_72 : decode mb_M_filled 72 = .ok (.lreturn, 1) := by decide +kernel
theorem dc_M_filled_73 : decode mb_M_filled 73 = .ok (.lload_n 2, 1) := by decide +kernel
theorem dc_M_filled_74 : decode mb_M_filled 74 = .ok (.iload 5, 2) := by decide +kernel
theorem dc_M_filled_76 : decode mb_M_filled 76 = .ok (.i2l, 1) := by decide +kernel
theorem dc_M_filled_77 : decode mb_M_filled 77 = .ok (.iload 4, 2) := by decide +kernel
theorem dc_M_filled_79 : decode mb_M_filled 79 = .ok (.i2l, 1) := by decide +kernel
theorem dc_M_filled_80 : decode mb_M_filled 80 = .ok (.lmul, 1) := by decide +kernel
theorem dc_M_filled_81 : decode mb_M_filled 81 = .ok (.lconst 1, 1) := by decide +kernel
theorem dc_M_filled_82 : decode mb_M_filled 82 = .ok (.ladd, 1) := by decide +kernel
theorem dc_M_filled_83 : decode mb_M_filled 83 = .ok (.lmul, 1) := by decide +kernel
theorem dc_M_filled_84 : decode mb_M_filled 84 = .ok (.lstore 6, 2) := by decide +kernel
theorem dc_M_filled_86 : decode mb_M_filled 86 = .ok (.lload 6, 2) := by decide +kernel
theorem dc_M_filled_88 : decode mb_M_filled 88 = .ok (.lload 6, 2) := by decide +kernel
theorem dc_M_filled_90 : decode mb_M_filled 90 = .ok (.bipush 29, 2) := by decide +kernel
theorem dc_M_filled_92 : decode mb_M_filled 92 = .ok (.lushr, 1) := by decide +kernel
theorem dc_M_filled_93 : decode mb_M_filled 93 = .ok (.lxor, 1) := by decide +kernel
theorem dc_M_filled_94 : decode mb_M_filled 94 = .ok (.lstore 6, 2) := by decide +kernel
theorem dc_M_filled_96 : decode mb_M_filled 96 = .ok (.iload_n 1, 1) := by decide +kernel
theorem dc_M_filled_97 : decode mb_M_filled 97 = .ok (.iconst 3, 1) := by decide +kernel
theorem dc_M_filled_98 : decode mb_M_filled 98 = .ok (.if_icmp .ne 8, 3) := by decide +kernel
theorem dc_M_filled_101 : decode mb_M_filled 101 = .ok (.lload 6, 2) := by decide +kernel
theorem dc_M_filled_103 : decode mb_M_filled 103 = .ok (.goto 9, 3) := by decide +kernel
theorem dc_M_filled_106 : decode mb_M_filled 106 = .ok (.lload 6, 2) := by decide +kernel
theorem dc_M_filled_108 : decode mb_M_filled 108 = .ok (.ldc2_w 60, 3) := by decide +kernel
theorem dc_M_filled_111 : decode mb_M_filled 111 = .ok (.land, 1) := by decide +kernel
theorem dc_M_filled_112 : decode mb_M_filled 112 = .ok (.lreturn, 1) := by decide +kernel
theorem dc_M_filled_113 : decode mb_M_filled 113 = .ok (.lload_n 2, 1) := by decide +kernel
theorem dc_M_filled_114 : decode mb_M_filled 114 = .ok (.iload 5, 2) := by decide +kernel
theorem dc_M_filled_116 : decode mb_M_filled 116 = .ok (.i2l, 1) := by decide +kernel
theorem dc_M_filled_117 : decode mb_M_filled 117 = .ok (.iload 4, 2) := by decide +kernel
theorem dc_M_filled_119 : decode mb_M_filled 119 = .ok (.i2l, 1) := by decide +kernel
theorem dc_M_filled_120 : decode mb_M_filled 120 = .ok (.lmul, 1) := by decide +kernel
theorem dc_M_filled_121 : decode mb_M_filled 121 = .ok (.ladd, 1) := by decide +kernel
theorem dc_M_filled_122 : decode mb_M_filled 122 = .ok (.lreturn, 1) := by decide +kernel
set_option maxHeartbeats 4000000 in
set_option maxRecDepth 100000 in
theorem ct_M_filled (l : Launch) (g : YG) (S : YS) (n kd : Nat) (hk : kd < 6) (hn : n ≤ 1024) (a : Int64) (s : Int32) (i : Nat) (hi : i < n) : yC l mn_M_filled mb_M_filled 8 (some .long) 0 g [.int (nI (n)), .int (nI (kd)), .long (a), .int (s), .int (nI (i))] S (fun v S' => v = some (.long (zkk kd n i a s)) ∧ S' = S) := by
  refine yC_of (by decide) (Nat.le_of_ble_eq_true rfl) ?_
  intro o hl hg hB0 hE
  subst hl
  subst hg
  have hB : yB o mb_M_filled "OrderBenchModel" := hB0
  have hm := hE.1
  show yW o (S) 0 [(0, .int (nI (n))), (1, .int (nI (kd))), (2, .long (a)), (4, .int (s)), (5, .int (nI (i)))] []
  refine y_iload_n (pc' := 1) hB dc_M_filled_0 rfl rfl 1 rfl ?_
  rcases (show kd = 1 ∨ kd = 2 ∨ kd = 3 ∨ kd = 4 ∨ (kd = 0 ∨ kd = 5) by omega) with e | e | e | e | e
  · subst e
    refine y_tableIn (off := 31) (tg := 32) hB dc_M_filled_1 (by decide) (by decide) rfl rfl ?_
    refine y_lload_n (pc' := 33) hB dc_M_filled_32 rfl rfl 2 rfl ?_
    refine y_iload_n (pc' := 34) hB dc_M_filled_33 rfl rfl 0 rfl ?_
    refine y_iconst (v := nI 1) (pc' := 35) hB dc_M_filled_34 rfl rfl ?_
    refine n_isub (x := n) (y := 1) (pc' := 36) hB dc_M_filled_35 rfl (by omega) ?_
    refine y_iload (pc' := 38) hB dc_M_filled_36 rfl 4 rfl ?_
    refine n_isub (x := n - 1) (y := i) (pc' := 39) hB dc_M_filled_38 rfl (by omega) ?_
    refine y_i2l (v := Int32.toInt64 (nI ((n - 1) - i))) (pc' := 40) hB dc_M_filled_39 rfl rfl ?_
    refine y_iload (pc' := 42) hB dc_M_filled_40 rfl 3 rfl ?_
    refine y_i2l (v := Int32.toInt64 (s)) (pc' := 43) hB dc_M_filled_42 rfl rfl ?_
    refine y_lmul (v := (Int32.toInt64 (nI ((n - 1) - i))) * (Int32.toInt64 (s))) (pc' := 44) hB dc_M_filled_43 rfl rfl ?_
    refine y_ladd (v := a + ((Int32.toInt64 (nI ((n - 1) - i))) * (Int32.toInt64 (s)))) (pc' := 45) hB dc_M_filled_44 rfl rfl ?_
    exact y_lret hB hE dc_M_filled_45 ⟨rfl, rfl⟩
  · subst e
    refine y_tableIn (off := 45) (tg := 46) hB dc_M_filled_1 (by decide) (by decide) rfl rfl ?_
    refine y_lload_n (pc' := 47) hB dc_M_filled_46 rfl rfl 2 rfl ?_
    refine y_iload (pc' := 49) hB dc_M_filled_47 rfl 4 rfl ?_
    refine y_iload_n (pc' := 50) hB dc_M_filled_49 rfl rfl 0 rfl ?_
    refine y_iconst (v := nI 2) (pc' := 51) hB dc_M_filled_50 rfl rfl ?_
    refine n_idiv (x := n) (y := 2) (pc' := 52) hB dc_M_filled_51 rfl (by omega) (by omega) (by omega) ?_
    refine n_icmp_ge (pc' := 55) (tg := 60) hB dc_M_filled_52 rfl rfl (by omega) (by omega) (fun b1 => ?_) (fun b1 => ?_)
    · refine y_iload (pc' := 62) hB dc_M_filled_60 rfl 4 rfl ?_
      refine y_iload_n (pc' := 63) hB dc_M_filled_62 rfl rfl 0 rfl ?_
      refine y_iconst (v := nI 2) (pc' := 64) hB dc_M_filled_63 rfl rfl ?_
      refine n_idiv (x := n) (y := 2) (pc' := 65) hB dc_M_filled_64 rfl (by omega) (by omega) (by omega) ?_
      refine n_isub (x := i) (y := n / 2) (pc' := 66) hB dc_M_filled_65 rfl (by omega) ?_
      refine y_i2l (v := Int32.toInt64 (nI (i - (n / 2)))) (pc' := 67) hB dc_M_filled_66 rfl rfl ?_
      refine y_iload (pc' := 69) hB dc_M_filled_67 rfl 3 rfl ?_
      refine y_i2l (v := Int32.toInt64 (s)) (pc' := 70) hB dc_M_filled_69 rfl rfl ?_
      refine y_lmul (v := (Int32.toInt64 (nI (i - (n / 2)))) * (Int32.toInt64 (s))) (pc' := 71) hB dc_M_filled_70 rfl rfl ?_
      refine y_ladd (v := a + ((Int32.toInt64 (nI (i - (n / 2)))) * (Int32.toInt64 (s)))) (pc' := 72) hB dc_M_filled_71 rfl rfl ?_
      exact y_lret hB hE dc_M_filled_72 ⟨by show _ = some (Value.long (a + Int32.toInt64 (nI (if i < n / 2 then i else i - n / 2)) * Int32.toInt64 s)); rw [if_neg (by omega)], rfl⟩
    · refine y_iload (pc' := 57) hB dc_M_filled_55 rfl 4 rfl ?_
      refine y_goto (tg := 66) hB dc_M_filled_57 rfl ?_
      refine y_i2l (v := Int32.toInt64 (nI (i))) (pc' := 67) hB dc_M_filled_66 rfl rfl ?_
      refine y_iload (pc' := 69) hB dc_M_filled_67 rfl 3 rfl ?_
      refine y_i2l (v := Int32.toInt64 (s)) (pc' := 70) hB dc_M_filled_69 rfl rfl ?_
      refine y_lmul (v := (Int32.toInt64 (nI (i))) * (Int32.toInt64 (s))) (pc' := 71) hB dc_M_filled_70 rfl rfl ?_
      refine y_ladd (v := a + ((Int32.toInt64 (nI (i))) * (Int32.toInt64 (s)))) (pc' := 72) hB dc_M_filled_71 rfl rfl ?_
      exact y_lret hB hE dc_M_filled_72 ⟨by show _ = some (Value.long (a + Int32.toInt64 (nI (if i < n / 2 then i else i - n / 2)) * Int32.toInt64 s)); rw [if_pos b1], rfl⟩
  · subst e
    refine y_tableIn (off := 72) (tg := 73) hB dc_M_filled_1 (by decide) (by decide) rfl rfl ?_
    refine y_lload_n (pc' := 74) hB dc_M_filled_73 rfl rfl 2 rfl ?_
    refine y_iload (pc' := 76) hB dc_M_filled_74 rfl 4 rfl ?_
    refine y_i2l (v := Int32.toInt64 (nI (i))) (pc' := 77) hB dc_M_filled_76 rfl rfl ?_
    refine y_iload (pc' := 79) hB dc_M_filled_77 rfl 3 rfl ?_
    refine y_i2l (v := Int32.toInt64 (s)) (pc' := 80) hB dc_M_filled_79 rfl rfl ?_
    refine y_lmul (v := (Int32.toInt64 (nI (i))) * (Int32.toInt64 (s))) (pc' := 81) hB dc_M_filled_80 rfl rfl ?_
    refine y_lconst (v := 1) (pc' := 82) hB dc_M_filled_81 rfl rfl ?_
    refine y_ladd (v := ((Int32.toInt64 (nI (i))) * (Int32.toInt64 (s))) + 1) (pc' := 83) hB dc_M_filled_82 rfl rfl ?_
    refine y_lmul (v := a * (((Int32.toInt64 (nI (i))) * (Int32.toInt64 (s))) + 1)) (pc' := 84) hB dc_M_filled_83 rfl rfl ?_
    refine y_lstore (pc' := 86) (lv' := [(6, .long (a * (((Int32.toInt64 (nI (i))) * (Int32.toInt64 (s))) + 1))), (0, .int (nI (n))), (1, .int (nI (3))), (2, .long (a)), (4, .int (s)), (5, .int (nI (i)))]) hB hm dc_M_filled_84 rfl (by decide) rfl ?_
    refine y_lload (pc' := 88) hB dc_M_filled_86 rfl 0 rfl ?_
    refine y_lload (pc' := 90) hB dc_M_filled_88 rfl 0 rfl ?_
    refine y_bipush (v := nI 29) (pc' := 92) hB dc_M_filled_90 rfl (by decide) ?_
    refine y_lushr (v := (Int64.toUInt64 (a * (((Int32.toInt64 (nI (i))) * (Int32.toInt64 (s))) + 1)) >>> (Int64.toUInt64 (Int32.toInt64 (nI (29))) &&& Int64.toUInt64 63)).toInt64) (pc' := 93) hB dc_M_filled_92 rfl rfl ?_
    refine y_lxor (v := (a * (((Int32.toInt64 (nI (i))) * (Int32.toInt64 (s))) + 1)) ^^^ ((Int64.toUInt64 (a * (((Int32.toInt64 (nI (i))) * (Int32.toInt64 (s))) + 1)) >>> (Int64.toUInt64 (Int32.toInt64 (nI (29))) &&& Int64.toUInt64 63)).toInt64)) (pc' := 94) hB dc_M_filled_93 rfl rfl ?_
    refine y_lstore (pc' := 96) (lv' := [(6, .long ((a * (((Int32.toInt64 (nI (i))) * (Int32.toInt64 (s))) + 1)) ^^^ ((Int64.toUInt64 (a * (((Int32.toInt64 (nI (i))) * (Int32.toInt64 (s))) + 1)) >>> (Int64.toUInt64 (Int32.toInt64 (nI (29))) &&& Int64.toUInt64 63)).toInt64))), (0, .int (nI (n))), (1, .int (nI (3))), (2, .long (a)), (4, .int (s)), (5, .int (nI (i)))]) hB hm dc_M_filled_94 rfl (by decide) rfl ?_
    refine y_iload_n (pc' := 97) hB dc_M_filled_96 rfl rfl 2 rfl ?_
    refine y_iconst (v := nI 3) (pc' := 98) hB dc_M_filled_97 rfl rfl ?_
    refine n_icmp_ne (pc' := 101) (tg := 106) hB dc_M_filled_98 rfl rfl (by omega) (by omega) (fun b1 => ?_) (fun b1 => ?_)
    · exact absurd rfl b1
    · refine y_lload (pc' := 103) hB dc_M_filled_101 rfl 0 rfl ?_
      refine y_goto (tg := 112) hB dc_M_filled_103 rfl ?_
      exact y_lret hB hE dc_M_filled_112 ⟨rfl, rfl⟩
  · subst e
    refine y_tableIn (off := 72) (tg := 73) hB dc_M_filled_1 (by decide) (by decide) rfl rfl ?_
    refine y_lload_n (pc' := 74) hB dc_M_filled_73 rfl rfl 2 rfl ?_
    refine y_iload (pc' := 76) hB dc_M_filled_74 rfl 4 rfl ?_
    refine y_i2l (v := Int32.toInt64 (nI (i))) (pc' := 77) hB dc_M_filled_76 rfl rfl ?_
    refine y_iload (pc' := 79) hB dc_M_filled_77 rfl 3 rfl ?_
    refine y_i2l (v := Int32.toInt64 (s)) (pc' := 80) hB dc_M_filled_79 rfl rfl ?_
    refine y_lmul (v := (Int32.toInt64 (nI (i))) * (Int32.toInt64 (s))) (pc' := 81) hB dc_M_filled_80 rfl rfl ?_
    refine y_lconst (v := 1) (pc' := 82) hB dc_M_filled_81 rfl rfl ?_
    refine y_ladd (v := ((Int32.toInt64 (nI (i))) * (Int32.toInt64 (s))) + 1) (pc' := 83) hB dc_M_filled_82 rfl rfl ?_
    refine y_lmul (v := a * (((Int32.toInt64 (nI (i))) * (Int32.toInt64 (s))) + 1)) (pc' := 84) hB dc_M_filled_83 rfl rfl ?_
    refine y_lstore (pc' := 86) (lv' := [(6, .long (a * (((Int32.toInt64 (nI (i))) * (Int32.toInt64 (s))) + 1))), (0, .int (nI (n))), (1, .int (nI (4))), (2, .long (a)), (4, .int (s)), (5, .int (nI (i)))]) hB hm dc_M_filled_84 rfl (by decide) rfl ?_
    refine y_lload (pc' := 88) hB dc_M_filled_86 rfl 0 rfl ?_
    refine y_lload (pc' := 90) hB dc_M_filled_88 rfl 0 rfl ?_
    refine y_bipush (v := nI 29) (pc' := 92) hB dc_M_filled_90 rfl (by decide) ?_
    refine y_lushr (v := (Int64.toUInt64 (a * (((Int32.toInt64 (nI (i))) * (Int32.toInt64 (s))) + 1)) >>> (Int64.toUInt64 (Int32.toInt64 (nI (29))) &&& Int64.toUInt64 63)).toInt64) (pc' := 93) hB dc_M_filled_92 rfl rfl ?_
    refine y_lxor (v := (a * (((Int32.toInt64 (nI (i))) * (Int32.toInt64 (s))) + 1)) ^^^ ((Int64.toUInt64 (a * (((Int32.toInt64 (nI (i))) * (Int32.toInt64 (s))) + 1)) >>> (Int64.toUInt64 (Int32.toInt64 (nI (29))) &&& Int64.toUInt64 63)).toInt64)) (pc' := 94) hB dc_M_filled_93 rfl rfl ?_
    refine y_lstore (pc' := 96) (lv' := [(6, .long ((a * (((Int32.toInt64 (nI (i))) * (Int32.toInt64 (s))) + 1)) ^^^ ((Int64.toUInt64 (a * (((Int32.toInt64 (nI (i))) * (Int32.toInt64 (s))) + 1)) >>> (Int64.toUInt64 (Int32.toInt64 (nI (29))) &&& Int64.toUInt64 63)).toInt64))), (0, .int (nI (n))), (1, .int (nI (4))), (2, .long (a)), (4, .int (s)), (5, .int (nI (i)))]) hB hm dc_M_filled_94 rfl (by decide) rfl ?_
    refine y_iload_n (pc' := 97) hB dc_M_filled_96 rfl rfl 2 rfl ?_
    refine y_iconst (v := nI 3) (pc' := 98) hB dc_M_filled_97 rfl rfl ?_
    refine n_icmp_ne (pc' := 101) (tg := 106) hB dc_M_filled_98 rfl rfl (by omega) (by omega) (fun b1 => ?_) (fun b1 => ?_)
    · refine y_lload (pc' := 108) hB dc_M_filled_106 rfl 0 rfl ?_
      refine y_ldc2 (v := 7) (pc' := 111) hB dc_M_filled_108 rfl q_683 ?_
      refine y_land (v := ((a * (((Int32.toInt64 (nI (i))) * (Int32.toInt64 (s))) + 1)) ^^^ ((Int64.toUInt64 (a * (((Int32.toInt64 (nI (i))) * (Int32.toInt64 (s))) + 1)) >>> (Int64.toUInt64 (Int32.toInt64 (nI (29))) &&& Int64.toUInt64 63)).toInt64)) &&& 7) (pc' := 112) hB dc_M_filled_111 rfl rfl ?_
      exact y_lret hB hE dc_M_filled_112 ⟨rfl, rfl⟩
    · exact absurd b1 (by decide)
  · have e2 : zkk kd n i a s = a + Int32.toInt64 (nI i) * Int32.toInt64 s := by unfold zkk; rw [if_neg (by omega), if_neg (by omega), if_neg (by omega), if_neg (by omega)]
    refine y_tableOut (tg := 113) hB dc_M_filled_1 (by rcases e with e | e <;> subst e <;> decide) rfl ?_
    refine y_lload_n (pc' := 114) hB dc_M_filled_113 rfl rfl 2 rfl ?_
    refine y_iload (pc' := 116) hB dc_M_filled_114 rfl 4 rfl ?_
    refine y_i2l (v := Int32.toInt64 (nI (i))) (pc' := 117) hB dc_M_filled_116 rfl rfl ?_
    refine y_iload (pc' := 119) hB dc_M_filled_117 rfl 3 rfl ?_
    refine y_i2l (v := Int32.toInt64 (s)) (pc' := 120) hB dc_M_filled_119 rfl rfl ?_
    refine y_lmul (v := (Int32.toInt64 (nI (i))) * (Int32.toInt64 (s))) (pc' := 121) hB dc_M_filled_120 rfl rfl ?_
    refine y_ladd (v := a + ((Int32.toInt64 (nI (i))) * (Int32.toInt64 (s)))) (pc' := 122) hB dc_M_filled_121 rfl rfl ?_
    exact y_lret hB hE dc_M_filled_122 ⟨by rw [e2], rfl⟩
