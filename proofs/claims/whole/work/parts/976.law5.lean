/-! LAW: ranked, climb, merge -/
theorem dc_L_law_1037 : decode code 1037 = .ok (.aload_n 1, 1) := by decide +kernel
theorem dc_L_law_1038 : decode code 1038 = .ok (.aload_n 0, 1) := by decide +kernel
theorem dc_L_law_1039 : decode code 1039 = .ok (.iload 4, 2) := by decide +kernel
theorem dc_L_law_1041 : decode code 1041 = .ok (.iconst 1, 1) := by decide +kernel
theorem dc_L_law_1042 : decode code 1042 = .ok (.iadd, 1) := by decide +kernel
theorem dc_L_law_1043 : decode code 1043 = .ok (.iaload, 1) := by decide +kernel
theorem dc_L_law_1044 : decode code 1044 = .ok (.aload_n 0, 1) := by decide +kernel
theorem dc_L_law_1045 : decode code 1045 = .ok (.iload 4, 2) := by decide +kernel
theorem dc_L_law_1047 : decode code 1047 = .ok (.iconst 2, 1) := by decide +kernel
theorem dc_L_law_1048 : decode code 1048 = .ok (.iadd, 1) := by decide +kernel
theorem dc_L_law_1049 : decode code 1049 = .ok (.iaload, 1) := by decide +kernel
theorem dc_L_law_1050 : decode code 1050 = .ok (.aload_n 0, 1) := by decide +kernel
theorem dc_L_law_1051 : decode code 1051 = .ok (.iload 4, 2) := by decide +kernel
theorem dc_L_law_1053 : decode code 1053 = .ok (.iconst 3, 1) := by decide +kernel
theorem dc_L_law_1054 : decode code 1054 = .ok (.iadd, 1) := by decide +kernel
theorem dc_L_law_1055 : decode code 1055 = .ok (.iaload, 1) := by decide +kernel
theorem dc_L_law_1056 : decode code 1056 = .ok (.aload_n 3, 1) := by decide +kernel
theorem dc_L_law_1057 : decode code 1057 = .ok (.invokestatic 151, 3) := by decide +kernel
theorem dc_L_law_1060 : decode code 1060 = .ok (.istore 5, 2) := by decide +kernel
theorem dc_L_law_1062 : decode code 1062 = .ok (.aload_n 2, 1) := by decide +kernel
theorem dc_L_law_1063 : decode code 1063 = .ok (.aload_n 0, 1) := by decide +kernel
theorem dc_L_law_1064 : decode code 1064 = .ok (.iload 4, 2) := by decide +kernel
theorem dc_L_law_1066 : decode code 1066 = .ok (.iconst 1, 1) := by decide +kernel
theorem dc_L_law_1067 : decode code 1067 = .ok (.iadd, 1) := by decide +kernel
theorem dc_L_law_1068 : decode code 1068 = .ok (.iaload, 1) := by decide +kernel
theorem dc_L_law_1069 : decode code 1069 = .ok (.aload_n 0, 1) := by decide +kernel
theorem dc_L_law_1070 : decode code 1070 = .ok (.iload 4, 2) := by decide +kernel
theorem dc_L_law_1072 : decode code 1072 = .ok (.iconst 2, 1) := by decide +kernel
theorem dc_L_law_1073 : decode code 1073 = .ok (.iadd, 1) := by decide +kernel
theorem dc_L_law_1074 : decode code 1074 = .ok (.iaload, 1) := by decide +kernel
theorem dc_L_law_1075 : decode code 1075 = .ok (.aload_n 0, 1) := by decide +kernel
theorem dc_L_law_1076 : decode code 1076 = .ok (.iload 4, 2) := by decide +kernel
theorem dc_L_law_1078 : decode code 1078 = .ok (.iconst 3, 1) := by decide +kernel
theorem dc_L_law_1079 : decode code 1079 = .ok (.iadd, 1) := by decide +kernel
theorem dc_L_law_1080 : decode code 1080 = .ok (.iaload, 1) := by decide +kernel
theorem dc_L_law_1081 : decode code 1081 = .ok (.invokevirtual 154, 3) := by decide +kernel
theorem dc_L_law_1084 : decode code 1084 = .ok (.istore 6, 2) := by decide +kernel
theorem dc_L_law_1086 : decode code 1086 = .ok (.aload_n 2, 1) := by decide +kernel
theorem dc_L_law_1087 : decode code 1087 = .ok (.invokevirtual 100, 3) := by decide +kernel
theorem dc_L_law_1090 : decode code 1090 = .ok (.iload 5, 2) := by decide +kernel
theorem dc_L_law_1092 : decode code 1092 = .ok (.if_icmp .eq 5, 3) := by decide +kernel
theorem dc_L_law_1095 : decode code 1095 = .ok (.iconst 0, 1) := by decide +kernel
theorem dc_L_law_1096 : decode code 1096 = .ok (.ireturn, 1) := by decide +kernel
theorem dc_L_law_1097 : decode code 1097 = .ok (.iload 5, 2) := by decide +kernel
theorem dc_L_law_1099 : decode code 1099 = .ok (.ifCond .ne 15, 3) := by decide +kernel
theorem dc_L_law_1102 : decode code 1102 = .ok (.aload_n 3, 1) := by decide +kernel
theorem dc_L_law_1103 : decode code 1103 = .ok (.iconst 0, 1) := by decide +kernel
theorem dc_L_law_1104 : decode code 1104 = .ok (.laload, 1) := by decide +kernel
theorem dc_L_law_1105 : decode code 1105 = .ok (.iload 6, 2) := by decide +kernel
theorem dc_L_law_1107 : decode code 1107 = .ok (.i2l, 1) := by decide +kernel
theorem dc_L_law_1108 : decode code 1108 = .ok (.lcmp, 1) := by decide +kernel
theorem dc_L_law_1109 : decode code 1109 = .ok (.ifCond .eq 5, 3) := by decide +kernel
theorem dc_L_law_1112 : decode code 1112 = .ok (.iconst 0, 1) := by decide +kernel
theorem dc_L_law_1113 : decode code 1113 = .ok (.ireturn, 1) := by decide +kernel
theorem dc_L_law_1114 : decode code 1114 = .ok (.goto 486, 3) := by decide +kernel
theorem dc_L_law_1117 : decode code 1117 = .ok (.aload_n 1, 1) := by decide +kernel
theorem dc_L_law_1118 : decode code 1118 = .ok (.aload_n 0, 1) := by decide +kernel
theorem dc_L_law_1119 : decode code 1119 = .ok (.iload 4, 2) := by decide +kernel
theorem dc_L_law_1121 : decode code 1121 = .ok (.iconst 1, 1) := by decide +kernel
theorem dc_L_law_1122 : decode code 1122 = .ok (.iadd, 1) := by decide +kernel
theorem dc_L_law_1123 : decode code 1123 = .ok (.iaload, 1) := by decide +kernel
theorem dc_L_law_1124 : decode code 1124 = .ok (.aload_n 0, 1) := by decide +kernel
theorem dc_L_law_1125 : decode code 1125 = .ok (.iload 4, 2) := by decide +kernel
theorem dc_L_law_1127 : decode code 1127 = .ok (.iconst 2, 1) := by decide +kernel
theorem dc_L_law_1128 : decode code 1128 = .ok (.iadd, 1) := by decide +kernel
theorem dc_L_law_1129 : decode code 1129 = .ok (.iaload, 1) := by decide +kernel
theorem dc_L_law_1130 : decode code 1130 = .ok (.aload_n 3, 1) := by decide +kernel
theorem dc_L_law_1131 : decode code 1131 = .ok (.invokestatic 155, 3) := by decide +kernel
theorem dc_L_law_1134 : decode code 1134 = .ok (.istore 5, 2) := by decide +kernel
theorem dc_L_law_1136 : decode code 1136 = .ok (.aload_n 2, 1) := by decide +kernel
theorem dc_L_law_1137 : decode code 1137 = .ok (.aload_n 0, 1) := by decide +kernel
theorem dc_L_law_1138 : decode code 1138 = .ok (.iload 4, 2) := by decide +kernel
theorem dc_L_law_1140 : decode code 1140 = .ok (.iconst 1, 1) := by decide +kernel
theorem dc_L_law_1141 : decode code 1141 = .ok (.iadd, 1) := by decide +kernel
theorem dc_L_law_1142 : decode code 1142 = .ok (.iaload, 1) := by decide +kernel
theorem dc_L_law_1143 : decode code 1143 = .ok (.aload_n 0, 1) := by decide +kernel
theorem dc_L_law_1144 : decode code 1144 = .ok (.iload 4, 2) := by decide +kernel
theorem dc_L_law_1146 : decode code 1146 = .ok (.iconst 2, 1) := by decide +kernel
theorem dc_L_law_1147 : decode code 1147 = .ok (.iadd, 1) := by decide +kernel
theorem dc_L_law_1148 : decode code 1148 = .ok (.iaload, 1) := by decide +kernel
theorem dc_L_law_1149 : decode code 1149 = .ok (.invokevirtual 157, 3) := by decide +kernel
theorem dc_L_law_1152 : decode code 1152 = .ok (.istore 6, 2) := by decide +kernel
theorem dc_L_law_1154 : decode code 1154 = .ok (.aload_n 2, 1) := by decide +kernel
theorem dc_L_law_1155 : decode code 1155 = .ok (.invokevirtual 100, 3) := by decide +kernel
theorem dc_L_law_1158 : decode code 1158 = .ok (.iload 5, 2) := by decide +kernel
theorem dc_L_law_1160 : decode code 1160 = .ok (.if_icmp .eq 5, 3) := by decide +kernel
theorem dc_L_law_1163 : decode code 1163 = .ok (.iconst 0, 1) := by decide +kernel
theorem dc_L_law_1164 : decode code 1164 = .ok (.ireturn, 1) := by decide +kernel
theorem dc_L_law_1165 : decode code 1165 = .ok (.iload 5, 2) := by decide +kernel
theorem dc_L_law_1167 : decode code 1167 = .ok (.ifCond .ne 15, 3) := by decide +kernel
theorem dc_L_law_1170 : decode code 1170 = .ok (.aload_n 3, 1) := by decide +kernel
theorem dc_L_law_1171 : decode code 1171 = .ok (.iconst 0, 1) := by decide +kernel
theorem dc_L_law_1172 : decode code 1172 = .ok (.laload, 1) := by decide +kernel
theorem dc_L_law_1173 : decode code 1173 = .ok (.iload 6, 2) := by decide +kernel
theorem dc_L_law_1175 : decode code 1175 = .ok (.i2l, 1) := by decide +kernel
theorem dc_L_law_1176 : decode code 1176 = .ok (.lcmp, 1) := by decide +kernel
theorem dc_L_law_1177 : decode code 1177 = .ok (.ifCond .eq 5, 3) := by decide +kernel
theorem dc_L_law_1180 : decode code 1180 = .ok (.iconst 0, 1) := by decide +kernel
theorem dc_L_law_1181 : decode code 1181 = .ok (.ireturn, 1) := by decide +kernel
theorem dc_L_law_1182 : decode code 1182 = .ok (.goto 418, 3) := by decide +kernel
theorem dc_L_law_1325 : decode code 1325 = .ok (.aload_n 1, 1) := by decide +kernel
theorem dc_L_law_1326 : decode code 1326 = .ok (.aload_n 0, 1) := by decide +kernel
theorem dc_L_law_1327 : decode code 1327 = .ok (.iload 4, 2) := by decide +kernel
theorem dc_L_law_1329 : decode code 1329 = .ok (.iconst 1, 1) := by decide +kernel
theorem dc_L_law_1330 : decode code 1330 = .ok (.iadd, 1) := by decide +kernel
theorem dc_L_law_1331 : decode code 1331 = .ok (.iaload, 1) := by decide +kernel
theorem dc_L_law_1332 : decode code 1332 = .ok (.aload_n 0, 1) := by decide +kernel
theorem dc_L_law_1333 : decode code 1333 = .ok (.iload 4, 2) := by decide +kernel
theorem dc_L_law_1335 : decode code 1335 = .ok (.iconst 2, 1) := by decide +kernel
theorem dc_L_law_1336 : decode code 1336 = .ok (.iadd, 1) := by decide +kernel
theorem dc_L_law_1337 : decode code 1337 = .ok (.iaload, 1) := by decide +kernel
theorem dc_L_law_1338 : decode code 1338 = .ok (.aload_n 0, 1) := by decide +kernel
theorem dc_L_law_1339 : decode code 1339 = .ok (.iload 4, 2) := by decide +kernel
theorem dc_L_law_1341 : decode code 1341 = .ok (.iconst 3, 1) := by decide +kernel
theorem dc_L_law_1342 : decode code 1342 = .ok (.iadd, 1) := by decide +kernel
theorem dc_L_law_1343 : decode code 1343 = .ok (.iaload, 1) := by decide +kernel
theorem dc_L_law_1344 : decode code 1344 = .ok (.aload_n 0, 1) := by decide +kernel
theorem dc_L_law_1345 : decode code 1345 = .ok (.iload 4, 2) := by decide +kernel
theorem dc_L_law_1347 : decode code 1347 = .ok (.iconst 4, 1) := by decide +kernel
theorem dc_L_law_1348 : decode code 1348 = .ok (.iadd, 1) := by decide +kernel
theorem dc_L_law_1349 : decode code 1349 = .ok (.iaload, 1) := by decide +kernel
theorem dc_L_law_1350 : decode code 1350 = .ok (.aload_n 3, 1) := by decide +kernel
theorem dc_L_law_1351 : decode code 1351 = .ok (.invokestatic 162, 3) := by decide +kernel
theorem dc_L_law_1354 : decode code 1354 = .ok (.istore 5, 2) := by decide +kernel
theorem dc_L_law_1356 : decode code 1356 = .ok (.aload_n 2, 1) := by decide +kernel
theorem dc_L_law_1357 : decode code 1357 = .ok (.aload_n 0, 1) := by decide +kernel
theorem dc_L_law_1358 : decode code 1358 = .ok (.iload 4, 2) := by decide +kernel
theorem dc_L_law_1360 : decode code 1360 = .ok (.iconst 1, 1) := by decide +kernel
theorem dc_L_law_1361 : decode code 1361 = .ok (.iadd, 1) := by decide +kernel
theorem dc_L_law_1362 : decode code 1362 = .ok (.iaload, 1) := by decide +kernel
theorem dc_L_law_1363 : decode code 1363 = .ok (.aload_n 0, 1) := by decide +kernel
theorem dc_L_law_1364 : decode code 1364 = .ok (.iload 4, 2) := by decide +kernel
theorem dc_L_law_1366 : decode code 1366 = .ok (.iconst 2, 1) := by decide +kernel
theorem dc_L_law_1367 : decode code 1367 = .ok (.iadd, 1) := by decide +kernel
theorem dc_L_law_1368 : decode code 1368 = .ok (.iaload, 1) := by decide +kernel
theorem dc_L_law_1369 : decode code 1369 = .ok (.aload_n 0, 1) := by decide +kernel
theorem dc_L_law_1370 : decode code 1370 = .ok (.iload 4, 2) := by decide +kernel
theorem dc_L_law_1372 : decode code 1372 = .ok (.iconst 3, 1) := by decide +kernel
theorem dc_L_law_1373 : decode code 1373 = .ok (.iadd, 1) := by decide +kernel
theorem dc_L_law_1374 : decode code 1374 = .ok (.iaload, 1) := by decide +kernel
theorem dc_L_law_1375 : decode code 1375 = .ok (.aload_n 0, 1) := by decide +kernel
theorem dc_L_law_1376 : decode code 1376 = .ok (.iload 4, 2) := by decide +kernel
theorem dc_L_law_1378 : decode code 1378 = .ok (.iconst 4, 1) := by decide +kernel
theorem dc_L_law_1379 : decode code 1379 = .ok (.iadd, 1) := by decide +kernel
theorem dc_L_law_1380 : decode code 1380 = .ok (.iaload, 1) := by decide +kernel
theorem dc_L_law_1381 : decode code 1381 = .ok (.invokevirtual 165, 3) := by decide +kernel
theorem dc_L_law_1384 : decode code 1384 = .ok (.istore 6, 2) := by decide +kernel
theorem dc_L_law_1386 : decode code 1386 = .ok (.aload_n 2, 1) := by decide +kernel
theorem dc_L_law_1387 : decode code 1387 = .ok (.invokevirtual 100, 3) := by decide +kernel
theorem dc_L_law_1390 : decode code 1390 = .ok (.iload 5, 2) := by decide +kernel
theorem dc_L_law_1392 : decode code 1392 = .ok (.if_icmp .eq 5, 3) := by decide +kernel
theorem dc_L_law_1395 : decode code 1395 = .ok (.iconst 0, 1) := by decide +kernel
theorem dc_L_law_1396 : decode code 1396 = .ok (.ireturn, 1) := by decide +kernel
theorem dc_L_law_1397 : decode code 1397 = .ok (.iload 5, 2) := by decide +kernel
theorem dc_L_law_1399 : decode code 1399 = .ok (.ifCond .ne 15, 3) := by decide +kernel
theorem dc_L_law_1402 : decode code 1402 = .ok (.aload_n 3, 1) := by decide +kernel
theorem dc_L_law_1403 : decode code 1403 = .ok (.iconst 0, 1) := by decide +kernel
theorem dc_L_law_1404 : decode code 1404 = .ok (.laload, 1) := by decide +kernel
theorem dc_L_law_1405 : decode code 1405 = .ok (.iload 6, 2) := by decide +kernel
theorem dc_L_law_1407 : decode code 1407 = .ok (.i2l, 1) := by decide +kernel
theorem dc_L_law_1408 : decode code 1408 = .ok (.lcmp, 1) := by decide +kernel
theorem dc_L_law_1409 : decode code 1409 = .ok (.ifCond .eq 5, 3) := by decide +kernel
theorem dc_L_law_1412 : decode code 1412 = .ok (.iconst 0, 1) := by decide +kernel
theorem dc_L_law_1413 : decode code 1413 = .ok (.ireturn, 1) := by decide +kernel
theorem dc_L_law_1414 : decode code 1414 = .ok (.goto 186, 3) := by decide +kernel
set_option maxHeartbeats 4000000 in
set_option maxRecDepth 100000 in
theorem lh_ranked {o : YO} {b L : Nat} {xs : Nat → Int32} (hLw : yLw o b L xs) (hR : yRm o 0 0) (i : Nat) (hi : i + 7 ≤ L) (S1 : YS) (c : Nat) (hc4 : c < 4) (lev : Nat) (hlev : lev ≤ 30) (H : yC o.l mn_M_ranked mb_M_ranked 4 (some .int) lev o.G [.ref (o.G.ad (24)), .int (xs (i + 1)), .int (xs (i + 2)), .int (xs (i + 3))] S1 (fun v S2 => dI v (gL S2 31 0) c ∧ gF S2 24 0 = nI c ∧ yInv S2)) (kk : ∀ S2 : YS, yInv S2 → yW o S2 1600 [(4, .int (nI (i))), (3, .ref (o.G.ad (31))), (2, .ref (o.G.ad (24))), (1, .ref (o.G.ad (0))), (0, .ref (b))] []) : yW o S1 1060 [(4, .int (nI (i))), (3, .ref (o.G.ad (31))), (2, .ref (o.G.ad (24))), (1, .ref (o.G.ad (0))), (0, .ref (b))] [.int (nI c)] := by
  have hB := hLw.1
  have hm := hLw.2.1
  have hL := hLw.2.2.2.2.2.2.1
  refine y_istore (pc' := 1062) (lv' := [(5, .int (nI (c))), (4, .int (nI (i))), (3, .ref (o.G.ad (31))), (2, .ref (o.G.ad (24))), (1, .ref (o.G.ad (0))), (0, .ref (b))]) hB hm dc_L_law_1060 rfl (by decide) rfl ?_
  refine y_aload_n (pc' := 1063) hB dc_L_law_1062 rfl rfl 3 rfl ?_
  refine y_aload_n (pc' := 1064) hB dc_L_law_1063 rfl rfl 5 rfl ?_
  refine y_iload (pc' := 1066) hB dc_L_law_1064 rfl 1 rfl ?_
  refine y_iconst (v := nI 1) (pc' := 1067) hB dc_L_law_1066 rfl rfl ?_
  refine n_iadd (x := i) (y := 1) (pc' := 1068) hB dc_L_law_1067 rfl ?_
  refine y_sld (j := i + 1) (pc' := 1069) hLw dc_L_law_1068 rfl (by omega) ?_
  refine y_aload_n (pc' := 1070) hB dc_L_law_1069 rfl rfl 5 rfl ?_
  refine y_iload (pc' := 1072) hB dc_L_law_1070 rfl 1 rfl ?_
  refine y_iconst (v := nI 2) (pc' := 1073) hB dc_L_law_1072 rfl rfl ?_
  refine n_iadd (x := i) (y := 2) (pc' := 1074) hB dc_L_law_1073 rfl ?_
  refine y_sld (j := i + 2) (pc' := 1075) hLw dc_L_law_1074 rfl (by omega) ?_
  refine y_aload_n (pc' := 1076) hB dc_L_law_1075 rfl rfl 5 rfl ?_
  refine y_iload (pc' := 1078) hB dc_L_law_1076 rfl 1 rfl ?_
  refine y_iconst (v := nI 3) (pc' := 1079) hB dc_L_law_1078 rfl rfl ?_
  refine n_iadd (x := i) (y := 3) (pc' := 1080) hB dc_L_law_1079 rfl ?_
  refine y_sld (j := i + 3) (pc' := 1081) hLw dc_L_law_1080 rfl (by omega) ?_
  refine y_gV (c := 24) (ci := 4) (As := [.int (xs (i + 1)), .int (xs (i + 2)), .int (xs (i + 3))]) (rest := []) (pc' := 1084) hB (hLw.2.2.1 _ _ (by omega) (by decide)) hR (H) mm_M_ranked q_785 q_786 q_787 (by decide) rfl rfl dc_L_law_1081 rfl rfl rfl (Nat.le_of_ble_eq_true rfl) (fun v S' hpost => ?_)
  obtain ⟨hd0, hcode, hI2⟩ := hpost
  obtain ⟨r, rfl, hr⟩ := hd0
  show yW o (S') 1084 [(5, .int (nI (c))), (4, .int (nI (i))), (3, .ref (o.G.ad (31))), (2, .ref (o.G.ad (24))), (1, .ref (o.G.ad (0))), (0, .ref (b))] [.int (r)]
  refine y_istore (pc' := 1086) (lv' := [(6, .int (r)), (5, .int (nI (c))), (4, .int (nI (i))), (3, .ref (o.G.ad (31))), (2, .ref (o.G.ad (24))), (1, .ref (o.G.ad (0))), (0, .ref (b))]) hB hm dc_L_law_1084 rfl (by decide) rfl ?_
  refine y_aload_n (pc' := 1087) hB dc_L_law_1086 rfl rfl 4 rfl ?_
  refine y_gV (c := 24) (ci := 4) (As := []) (rest := []) (pc' := 1090) hB (hLw.2.2.1 _ _ (by decide) (by decide)) hR (ct_M_thrown o.l o.G S') mm_M_thrown q_664 q_665 q_666 (by decide) rfl rfl dc_L_law_1087 rfl rfl rfl (Nat.le_of_ble_eq_true rfl) (fun v S' hpost => ?_)
  obtain ⟨rfl, hSS⟩ := hpost
  subst hSS
  show yW o (S') 1090 [(6, .int (r)), (5, .int (nI (c))), (4, .int (nI (i))), (3, .ref (o.G.ad (31))), (2, .ref (o.G.ad (24))), (1, .ref (o.G.ad (0))), (0, .ref (b))] [.int (gF S' 24 0)]
  refine y_topi (y := nI (c)) (hcode) ?_
  refine y_iload (pc' := 1092) hB dc_L_law_1090 rfl 1 rfl ?_
  refine n_icmp_eq (pc' := 1095) (tg := 1097) hB dc_L_law_1092 rfl rfl (by omega) (by omega) (fun b2 => ?_) (fun b2 => ?_)
  · refine y_iload (pc' := 1099) hB dc_L_law_1097 rfl 1 rfl ?_
    refine n_if_ne (pc' := 1102) (tg := 1114) hB dc_L_law_1099 rfl rfl (by omega) (fun b3 => ?_) (fun b3 => ?_)
    · refine y_goto (tg := 1600) hB dc_L_law_1114 rfl ?_
      refine y_sub [2, 3, 4, 5, 6] rfl ?_
      exact kk _ hI2
    · have e0 : c = 0 := by omega
      refine y_aload_n (pc' := 1103) hB dc_L_law_1102 rfl rfl 3 rfl ?_
      refine y_iconst (v := nI 0) (pc' := 1104) hB dc_L_law_1103 rfl rfl ?_
      refine y_lald (c := 31) (n := 1) (j := 0) (pc' := 1105) hB dc_L_law_1104 rfl (by decide) rfl (by omega) (by decide) ?_
      refine y_iload (pc' := 1107) hB dc_L_law_1105 rfl 0 rfl ?_
      refine y_i2l (v := Int32.toInt64 (r)) (pc' := 1108) hB dc_L_law_1107 rfl rfl ?_
      refine y_lcmp (pc' := 1109) hB dc_L_law_1108 rfl ?_
      refine y_if_eq (x := lg_cmp (gL (S') (31) (0)) (Int32.toInt64 (r))) (pc' := 1112) (tg := 1114) hB dc_L_law_1109 rfl rfl (fun b4 => ?_) (fun b4 => ?_)
      · refine y_goto (tg := 1600) hB dc_L_law_1114 rfl ?_
        refine y_sub [2, 3, 4, 5, 6] rfl ?_
        exact kk _ hI2
      · exact absurd (lg_0.mpr (hr e0)) b4
  · omega
set_option maxHeartbeats 4000000 in
set_option maxRecDepth 100000 in
theorem lg_ranked {o : YO} {b L : Nat} {xs : Nat → Int32} (hLw : yLw o b L xs) (hR : yRm o 1 6) (i : Nat) (hi : i + 7 ≤ L) (S : YS) (hI : yInv S) (kk : ∀ S2 : YS, yInv S2 → yW (yat o (o.cells + 1) (o.slots + 6)) S2 1600 [(4, .int (nI (i))), (3, .ref (o.G.ad (31))), (2, .ref (o.G.ad (24))), (1, .ref (o.G.ad (0))), (0, .ref (b))] []) : yW o S 1037 [(4, .int (nI (i))), (3, .ref (o.G.ad (31))), (2, .ref (o.G.ad (24))), (1, .ref (o.G.ad (0))), (0, .ref (b))] [] := by
  have hB := hLw.1
  have hm := hLw.2.1
  have hL := hLw.2.2.2.2.2.2.1
  refine y_aload_n (pc' := 1038) hB dc_L_law_1037 rfl rfl 3 rfl ?_
  refine y_aload_n (pc' := 1039) hB dc_L_law_1038 rfl rfl 4 rfl ?_
  refine y_iload (pc' := 1041) hB dc_L_law_1039 rfl 0 rfl ?_
  refine y_iconst (v := nI 1) (pc' := 1042) hB dc_L_law_1041 rfl rfl ?_
  refine n_iadd (x := i) (y := 1) (pc' := 1043) hB dc_L_law_1042 rfl ?_
  refine y_sld (j := i + 1) (pc' := 1044) hLw dc_L_law_1043 rfl (by omega) ?_
  refine y_aload_n (pc' := 1045) hB dc_L_law_1044 rfl rfl 4 rfl ?_
  refine y_iload (pc' := 1047) hB dc_L_law_1045 rfl 0 rfl ?_
  refine y_iconst (v := nI 2) (pc' := 1048) hB dc_L_law_1047 rfl rfl ?_
  refine n_iadd (x := i) (y := 2) (pc' := 1049) hB dc_L_law_1048 rfl ?_
  refine y_sld (j := i + 2) (pc' := 1050) hLw dc_L_law_1049 rfl (by omega) ?_
  refine y_aload_n (pc' := 1051) hB dc_L_law_1050 rfl rfl 4 rfl ?_
  refine y_iload (pc' := 1053) hB dc_L_law_1051 rfl 0 rfl ?_
  refine y_iconst (v := nI 3) (pc' := 1054) hB dc_L_law_1053 rfl rfl ?_
  refine n_iadd (x := i) (y := 3) (pc' := 1055) hB dc_L_law_1054 rfl ?_
  refine y_sld (j := i + 3) (pc' := 1056) hLw dc_L_law_1055 rfl (by omega) ?_
  refine y_aload_n (pc' := 1057) hB dc_L_law_1056 rfl rfl 1 rfl ?_
  obtain ⟨c, P, hc4, hH, hM⟩ := duo_ranked o.l hLw.2.2.2.2.2.2.2 o.G S hI (xs (i + 1)) (xs (i + 2)) (xs (i + 3))
  refine y_hS (k := 5) (As := [.ref (o.G.ad (0)), .int (xs (i + 1)), .int (xs (i + 2)), .int (xs (i + 3)), .ref (o.G.ad (31))]) (rest := []) (pc' := 1060) hB (hLw.2.2.1 _ _ (by omega) (by decide)) hR hH q_567 q_0 ⟨by decide, by decide⟩ (by decide +kernel) q_565 q_566 dc_L_law_1057 rfl rfl rfl (Nat.le_of_ble_eq_true rfl) (fun v S1 hpost => ?_)
  obtain ⟨rfl, hP⟩ := hpost
  obtain ⟨lev, hlev, hC⟩ := hM S1 hP
  exact lh_ranked (o := (yat o (o.cells + 1) (o.slots + 6))) hLw ⟨hR.1, hR.2⟩ i hi S1 c hc4 lev hlev hC kk
set_option maxHeartbeats 4000000 in
set_option maxRecDepth 100000 in
theorem lh_climb {o : YO} {b L : Nat} {xs : Nat → Int32} (hLw : yLw o b L xs) (hR : yRm o 0 0) (i : Nat) (hi : i + 7 ≤ L) (S1 : YS) (c : Nat) (hc4 : c < 4) (lev : Nat) (hlev : lev ≤ 30) (H : yC o.l mn_M_climb mb_M_climb 6 (some .int) lev o.G [.ref (o.G.ad (24)), .int (xs (i + 1)), .int (xs (i + 2))] S1 (fun v S2 => dI v (gL S2 31 0) c ∧ gF S2 24 0 = nI c ∧ yInv S2)) (kk : ∀ S2 : YS, yInv S2 → yW o S2 1600 [(4, .int (nI (i))), (3, .ref (o.G.ad (31))), (2, .ref (o.G.ad (24))), (1, .ref (o.G.ad (0))), (0, .ref (b))] []) : yW o S1 1134 [(4, .int (nI (i))), (3, .ref (o.G.ad (31))), (2, .ref (o.G.ad (24))), (1, .ref (o.G.ad (0))), (0, .ref (b))] [.int (nI c)] := by
  have hB := hLw.1
  have hm := hLw.2.1
  have hL := hLw.2.2.2.2.2.2.1
  refine y_istore (pc' := 1136) (lv' := [(5, .int (nI (c))), (4, .int (nI (i))), (3, .ref (o.G.ad (31))), (2, .ref (o.G.ad (24))), (1, .ref (o.G.ad (0))), (0, .ref (b))]) hB hm dc_L_law_1134 rfl (by decide) rfl ?_
  refine y_aload_n (pc' := 1137) hB dc_L_law_1136 rfl rfl 3 rfl ?_
  refine y_aload_n (pc' := 1138) hB dc_L_law_1137 rfl rfl 5 rfl ?_
  refine y_iload (pc' := 1140) hB dc_L_law_1138 rfl 1 rfl ?_
  refine y_iconst (v := nI 1) (pc' := 1141) hB dc_L_law_1140 rfl rfl ?_
  refine n_iadd (x := i) (y := 1) (pc' := 1142) hB dc_L_law_1141 rfl ?_
  refine y_sld (j := i + 1) (pc' := 1143) hLw dc_L_law_1142 rfl (by omega) ?_
  refine y_aload_n (pc' := 1144) hB dc_L_law_1143 rfl rfl 5 rfl ?_
  refine y_iload (pc' := 1146) hB dc_L_law_1144 rfl 1 rfl ?_
  refine y_iconst (v := nI 2) (pc' := 1147) hB dc_L_law_1146 rfl rfl ?_
  refine n_iadd (x := i) (y := 2) (pc' := 1148) hB dc_L_law_1147 rfl ?_
  refine y_sld (j := i + 2) (pc' := 1149) hLw dc_L_law_1148 rfl (by omega) ?_
  refine y_gV (c := 24) (ci := 4) (As := [.int (xs (i + 1)), .int (xs (i + 2))]) (rest := []) (pc' := 1152) hB (hLw.2.2.1 _ _ (by omega) (by decide)) hR (H) mm_M_climb q_789 q_790 q_791 (by decide) rfl rfl dc_L_law_1149 rfl rfl rfl (Nat.le_of_ble_eq_true rfl) (fun v S' hpost => ?_)
  obtain ⟨hd0, hcode, hI2⟩ := hpost
  obtain ⟨r, rfl, hr⟩ := hd0
  show yW o (S') 1152 [(5, .int (nI (c))), (4, .int (nI (i))), (3, .ref (o.G.ad (31))), (2, .ref (o.G.ad (24))), (1, .ref (o.G.ad (0))), (0, .ref (b))] [.int (r)]
  refine y_istore (pc' := 1154) (lv' := [(6, .int (r)), (5, .int (nI (c))), (4, .int (nI (i))), (3, .ref (o.G.ad (31))), (2, .ref (o.G.ad (24))), (1, .ref (o.G.ad (0))), (0, .ref (b))]) hB hm dc_L_law_1152 rfl (by decide) rfl ?_
  refine y_aload_n (pc' := 1155) hB dc_L_law_1154 rfl rfl 4 rfl ?_
  refine y_gV (c := 24) (ci := 4) (As := []) (rest := []) (pc' := 1158) hB (hLw.2.2.1 _ _ (by decide) (by decide)) hR (ct_M_thrown o.l o.G S') mm_M_thrown q_664 q_665 q_666 (by decide) rfl rfl dc_L_law_1155 rfl rfl rfl (Nat.le_of_ble_eq_true rfl) (fun v S' hpost => ?_)
  obtain ⟨rfl, hSS⟩ := hpost
  subst hSS
  show yW o (S') 1158 [(6, .int (r)), (5, .int (nI (c))), (4, .int (nI (i))), (3, .ref (o.G.ad (31))), (2, .ref (o.G.ad (24))), (1, .ref (o.G.ad (0))), (0, .ref (b))] [.int (gF S' 24 0)]
  refine y_topi (y := nI (c)) (hcode) ?_
  refine y_iload (pc' := 1160) hB dc_L_law_1158 rfl 1 rfl ?_
  refine n_icmp_eq (pc' := 1163) (tg := 1165) hB dc_L_law_1160 rfl rfl (by omega) (by omega) (fun b2 => ?_) (fun b2 => ?_)
  · refine y_iload (pc' := 1167) hB dc_L_law_1165 rfl 1 rfl ?_
    refine n_if_ne (pc' := 1170) (tg := 1182) hB dc_L_law_1167 rfl rfl (by omega) (fun b3 => ?_) (fun b3 => ?_)
    · refine y_goto (tg := 1600) hB dc_L_law_1182 rfl ?_
      refine y_sub [2, 3, 4, 5, 6] rfl ?_
      exact kk _ hI2
    · have e0 : c = 0 := by omega
      refine y_aload_n (pc' := 1171) hB dc_L_law_1170 rfl rfl 3 rfl ?_
      refine y_iconst (v := nI 0) (pc' := 1172) hB dc_L_law_1171 rfl rfl ?_
      refine y_lald (c := 31) (n := 1) (j := 0) (pc' := 1173) hB dc_L_law_1172 rfl (by decide) rfl (by omega) (by decide) ?_
      refine y_iload (pc' := 1175) hB dc_L_law_1173 rfl 0 rfl ?_
      refine y_i2l (v := Int32.toInt64 (r)) (pc' := 1176) hB dc_L_law_1175 rfl rfl ?_
      refine y_lcmp (pc' := 1177) hB dc_L_law_1176 rfl ?_
      refine y_if_eq (x := lg_cmp (gL (S') (31) (0)) (Int32.toInt64 (r))) (pc' := 1180) (tg := 1182) hB dc_L_law_1177 rfl rfl (fun b4 => ?_) (fun b4 => ?_)
      · refine y_goto (tg := 1600) hB dc_L_law_1182 rfl ?_
        refine y_sub [2, 3, 4, 5, 6] rfl ?_
        exact kk _ hI2
      · exact absurd (lg_0.mpr (hr e0)) b4
  · omega
set_option maxHeartbeats 4000000 in
set_option maxRecDepth 100000 in
theorem lg_climb {o : YO} {b L : Nat} {xs : Nat → Int32} (hLw : yLw o b L xs) (hR : yRm o 1 6) (i : Nat) (hi : i + 7 ≤ L) (S : YS) (hI : yInv S) (kk : ∀ S2 : YS, yInv S2 → yW (yat o (o.cells + 1) (o.slots + 6)) S2 1600 [(4, .int (nI (i))), (3, .ref (o.G.ad (31))), (2, .ref (o.G.ad (24))), (1, .ref (o.G.ad (0))), (0, .ref (b))] []) : yW o S 1117 [(4, .int (nI (i))), (3, .ref (o.G.ad (31))), (2, .ref (o.G.ad (24))), (1, .ref (o.G.ad (0))), (0, .ref (b))] [] := by
  have hB := hLw.1
  have hm := hLw.2.1
  have hL := hLw.2.2.2.2.2.2.1
  refine y_aload_n (pc' := 1118) hB dc_L_law_1117 rfl rfl 3 rfl ?_
  refine y_aload_n (pc' := 1119) hB dc_L_law_1118 rfl rfl 4 rfl ?_
  refine y_iload (pc' := 1121) hB dc_L_law_1119 rfl 0 rfl ?_
  refine y_iconst (v := nI 1) (pc' := 1122) hB dc_L_law_1121 rfl rfl ?_
  refine n_iadd (x := i) (y := 1) (pc' := 1123) hB dc_L_law_1122 rfl ?_
  refine y_sld (j := i + 1) (pc' := 1124) hLw dc_L_law_1123 rfl (by omega) ?_
  refine y_aload_n (pc' := 1125) hB dc_L_law_1124 rfl rfl 4 rfl ?_
  refine y_iload (pc' := 1127) hB dc_L_law_1125 rfl 0 rfl ?_
  refine y_iconst (v := nI 2) (pc' := 1128) hB dc_L_law_1127 rfl rfl ?_
  refine n_iadd (x := i) (y := 2) (pc' := 1129) hB dc_L_law_1128 rfl ?_
  refine y_sld (j := i + 2) (pc' := 1130) hLw dc_L_law_1129 rfl (by omega) ?_
  refine y_aload_n (pc' := 1131) hB dc_L_law_1130 rfl rfl 1 rfl ?_
  obtain ⟨c, P, hc4, hH, hM⟩ := duo_climb o.l hLw.2.2.2.2.2.2.2 o.G S hI (xs (i + 1)) (xs (i + 2))
  refine y_hS (k := 4) (As := [.ref (o.G.ad (0)), .int (xs (i + 1)), .int (xs (i + 2)), .ref (o.G.ad (31))]) (rest := []) (pc' := 1134) hB (hLw.2.2.1 _ _ (by omega) (by decide)) hR hH q_574 q_0 ⟨by decide, by decide⟩ (by decide +kernel) q_572 q_573 dc_L_law_1131 rfl rfl rfl (Nat.le_of_ble_eq_true rfl) (fun v S1 hpost => ?_)
  obtain ⟨rfl, hP⟩ := hpost
  obtain ⟨lev, hlev, hC⟩ := hM S1 hP
  exact lh_climb (o := (yat o (o.cells + 1) (o.slots + 6))) hLw ⟨hR.1, hR.2⟩ i hi S1 c hc4 lev hlev hC kk
set_option maxHeartbeats 4000000 in
set_option maxRecDepth 100000 in
theorem lh_merge {o : YO} {b L : Nat} {xs : Nat → Int32} (hLw : yLw o b L xs) (hR : yRm o 0 0) (i : Nat) (hi : i + 7 ≤ L) (S1 : YS) (c : Nat) (hc4 : c < 4) (lev : Nat) (hlev : lev ≤ 30) (H : yC o.l mn_M_merge mb_M_merge 5 (some .int) lev o.G [.ref (o.G.ad (24)), .int (xs (i + 1)), .int (xs (i + 2)), .int (xs (i + 3)), .int (xs (i + 4))] S1 (fun v S2 => dI v (gL S2 31 0) c ∧ gF S2 24 0 = nI c ∧ yInv S2)) (kk : ∀ S2 : YS, yInv S2 → yW o S2 1600 [(4, .int (nI (i))), (3, .ref (o.G.ad (31))), (2, .ref (o.G.ad (24))), (1, .ref (o.G.ad (0))), (0, .ref (b))] []) : yW o S1 1354 [(4, .int (nI (i))), (3, .ref (o.G.ad (31))), (2, .ref (o.G.ad (24))), (1, .ref (o.G.ad (0))), (0, .ref (b))] [.int (nI c)] := by
  have hB := hLw.1
  have hm := hLw.2.1
  have hL := hLw.2.2.2.2.2.2.1
  refine y_istore (pc' := 1356) (lv' := [(5, .int (nI (c))), (4, .int (nI (i))), (3, .ref (o.G.ad (31))), (2, .ref (o.G.ad (24))), (1, .ref (o.G.ad (0))), (0, .ref (b))]) hB hm dc_L_law_1354 rfl (by decide) rfl ?_
  refine y_aload_n (pc' := 1357) hB dc_L_law_1356 rfl rfl 3 rfl ?_
  refine y_aload_n (pc' := 1358) hB dc_L_law_1357 rfl rfl 5 rfl ?_
  refine y_iload (pc' := 1360) hB dc_L_law_1358 rfl 1 rfl ?_
  refine y_iconst (v := nI 1) (pc' := 1361) hB dc_L_law_1360 rfl rfl ?_
  refine n_iadd (x := i) (y := 1) (pc' := 1362) hB dc_L_law_1361 rfl ?_
  refine y_sld (j := i + 1) (pc' := 1363) hLw dc_L_law_1362 rfl (by omega) ?_
  refine y_aload_n (pc' := 1364) hB dc_L_law_1363 rfl rfl 5 rfl ?_
  refine y_iload (pc' := 1366) hB dc_L_law_1364 rfl 1 rfl ?_
  refine y_iconst (v := nI 2) (pc' := 1367) hB dc_L_law_1366 rfl rfl ?_
  refine n_iadd (x := i) (y := 2) (pc' := 1368) hB dc_L_law_1367 rfl ?_
  refine y_sld (j := i + 2) (pc' := 1369) hLw dc_L_law_1368 rfl (by omega) ?_
  refine y_aload_n (pc' := 1370) hB dc_L_law_1369 rfl rfl 5 rfl ?_
  refine y_iload (pc' := 1372) hB dc_L_law_1370 rfl 1 rfl ?_
  refine y_iconst (v := nI 3) (pc' := 1373) hB dc_L_law_1372 rfl rfl ?_
  refine n_iadd (x := i) (y := 3) (pc' := 1374) hB dc_L_law_1373 rfl ?_
  refine y_sld (j := i + 3) (pc' := 1375) hLw dc_L_law_1374 rfl (by omega) ?_
  refine y_aload_n (pc' := 1376) hB dc_L_law_1375 rfl rfl 5 rfl ?_
  refine y_iload (pc' := 1378) hB dc_L_law_1376 rfl 1 rfl ?_
  refine y_iconst (v := nI 4) (pc' := 1379) hB dc_L_law_1378 rfl rfl ?_
  refine n_iadd (x := i) (y := 4) (pc' := 1380) hB dc_L_law_1379 rfl ?_
  refine y_sld (j := i + 4) (pc' := 1381) hLw dc_L_law_1380 rfl (by omega) ?_
  refine y_gV (c := 24) (ci := 4) (As := [.int (xs (i + 1)), .int (xs (i + 2)), .int (xs (i + 3)), .int (xs (i + 4))]) (rest := []) (pc' := 1384) hB (hLw.2.2.1 _ _ (by omega) (by decide)) hR (H) mm_M_merge q_800 q_801 q_802 (by decide) rfl rfl dc_L_law_1381 rfl rfl rfl (Nat.le_of_ble_eq_true rfl) (fun v S' hpost => ?_)
  obtain ⟨hd0, hcode, hI2⟩ := hpost
  obtain ⟨r, rfl, hr⟩ := hd0
  show yW o (S') 1384 [(5, .int (nI (c))), (4, .int (nI (i))), (3, .ref (o.G.ad (31))), (2, .ref (o.G.ad (24))), (1, .ref (o.G.ad (0))), (0, .ref (b))] [.int (r)]
  refine y_istore (pc' := 1386) (lv' := [(6, .int (r)), (5, .int (nI (c))), (4, .int (nI (i))), (3, .ref (o.G.ad (31))), (2, .ref (o.G.ad (24))), (1, .ref (o.G.ad (0))), (0, .ref (b))]) hB hm dc_L_law_1384 rfl (by decide) rfl ?_
  refine y_aload_n (pc' := 1387) hB dc_L_law_1386 rfl rfl 4 rfl ?_
  refine y_gV (c := 24) (ci := 4) (As := []) (rest := []) (pc' := 1390) hB (hLw.2.2.1 _ _ (by decide) (by decide)) hR (ct_M_thrown o.l o.G S') mm_M_thrown q_664 q_665 q_666 (by decide) rfl rfl dc_L_law_1387 rfl rfl rfl (Nat.le_of_ble_eq_true rfl) (fun v S' hpost => ?_)
  obtain ⟨rfl, hSS⟩ := hpost
  subst hSS
  show yW o (S') 1390 [(6, .int (r)), (5, .int (nI (c))), (4, .int (nI (i))), (3, .ref (o.G.ad (31))), (2, .ref (o.G.ad (24))), (1, .ref (o.G.ad (0))), (0, .ref (b))] [.int (gF S' 24 0)]
  refine y_topi (y := nI (c)) (hcode) ?_
  refine y_iload (pc' := 1392) hB dc_L_law_1390 rfl 1 rfl ?_
  refine n_icmp_eq (pc' := 1395) (tg := 1397) hB dc_L_law_1392 rfl rfl (by omega) (by omega) (fun b2 => ?_) (fun b2 => ?_)
  · refine y_iload (pc' := 1399) hB dc_L_law_1397 rfl 1 rfl ?_
    refine n_if_ne (pc' := 1402) (tg := 1414) hB dc_L_law_1399 rfl rfl (by omega) (fun b3 => ?_) (fun b3 => ?_)
    · refine y_goto (tg := 1600) hB dc_L_law_1414 rfl ?_
      refine y_sub [2, 3, 4, 5, 6] rfl ?_
      exact kk _ hI2
    · have e0 : c = 0 := by omega
      refine y_aload_n (pc' := 1403) hB dc_L_law_1402 rfl rfl 3 rfl ?_
      refine y_iconst (v := nI 0) (pc' := 1404) hB dc_L_law_1403 rfl rfl ?_
      refine y_lald (c := 31) (n := 1) (j := 0) (pc' := 1405) hB dc_L_law_1404 rfl (by decide) rfl (by omega) (by decide) ?_
      refine y_iload (pc' := 1407) hB dc_L_law_1405 rfl 0 rfl ?_
      refine y_i2l (v := Int32.toInt64 (r)) (pc' := 1408) hB dc_L_law_1407 rfl rfl ?_
      refine y_lcmp (pc' := 1409) hB dc_L_law_1408 rfl ?_
      refine y_if_eq (x := lg_cmp (gL (S') (31) (0)) (Int32.toInt64 (r))) (pc' := 1412) (tg := 1414) hB dc_L_law_1409 rfl rfl (fun b4 => ?_) (fun b4 => ?_)
      · refine y_goto (tg := 1600) hB dc_L_law_1414 rfl ?_
        refine y_sub [2, 3, 4, 5, 6] rfl ?_
        exact kk _ hI2
      · exact absurd (lg_0.mpr (hr e0)) b4
  · omega
set_option maxHeartbeats 4000000 in
set_option maxRecDepth 100000 in
theorem lg_merge {o : YO} {b L : Nat} {xs : Nat → Int32} (hLw : yLw o b L xs) (hR : yRm o 1 6) (i : Nat) (hi : i + 7 ≤ L) (S : YS) (hI : yInv S) (kk : ∀ S2 : YS, yInv S2 → yW (yat o (o.cells + 1) (o.slots + 6)) S2 1600 [(4, .int (nI (i))), (3, .ref (o.G.ad (31))), (2, .ref (o.G.ad (24))), (1, .ref (o.G.ad (0))), (0, .ref (b))] []) : yW o S 1325 [(4, .int (nI (i))), (3, .ref (o.G.ad (31))), (2, .ref (o.G.ad (24))), (1, .ref (o.G.ad (0))), (0, .ref (b))] [] := by
  have hB := hLw.1
  have hm := hLw.2.1
  have hL := hLw.2.2.2.2.2.2.1
  refine y_aload_n (pc' := 1326) hB dc_L_law_1325 rfl rfl 3 rfl ?_
  refine y_aload_n (pc' := 1327) hB dc_L_law_1326 rfl rfl 4 rfl ?_
  refine y_iload (pc' := 1329) hB dc_L_law_1327 rfl 0 rfl ?_
  refine y_iconst (v := nI 1) (pc' := 1330) hB dc_L_law_1329 rfl rfl ?_
  refine n_iadd (x := i) (y := 1) (pc' := 1331) hB dc_L_law_1330 rfl ?_
  refine y_sld (j := i + 1) (pc' := 1332) hLw dc_L_law_1331 rfl (by omega) ?_
  refine y_aload_n (pc' := 1333) hB dc_L_law_1332 rfl rfl 4 rfl ?_
  refine y_iload (pc' := 1335) hB dc_L_law_1333 rfl 0 rfl ?_
  refine y_iconst (v := nI 2) (pc' := 1336) hB dc_L_law_1335 rfl rfl ?_
  refine n_iadd (x := i) (y := 2) (pc' := 1337) hB dc_L_law_1336 rfl ?_
  refine y_sld (j := i + 2) (pc' := 1338) hLw dc_L_law_1337 rfl (by omega) ?_
  refine y_aload_n (pc' := 1339) hB dc_L_law_1338 rfl rfl 4 rfl ?_
  refine y_iload (pc' := 1341) hB dc_L_law_1339 rfl 0 rfl ?_
  refine y_iconst (v := nI 3) (pc' := 1342) hB dc_L_law_1341 rfl rfl ?_
  refine n_iadd (x := i) (y := 3) (pc' := 1343) hB dc_L_law_1342 rfl ?_
  refine y_sld (j := i + 3) (pc' := 1344) hLw dc_L_law_1343 rfl (by omega) ?_
  refine y_aload_n (pc' := 1345) hB dc_L_law_1344 rfl rfl 4 rfl ?_
  refine y_iload (pc' := 1347) hB dc_L_law_1345 rfl 0 rfl ?_
  refine y_iconst (v := nI 4) (pc' := 1348) hB dc_L_law_1347 rfl rfl ?_
  refine n_iadd (x := i) (y := 4) (pc' := 1349) hB dc_L_law_1348 rfl ?_
  refine y_sld (j := i + 4) (pc' := 1350) hLw dc_L_law_1349 rfl (by omega) ?_
  refine y_aload_n (pc' := 1351) hB dc_L_law_1350 rfl rfl 1 rfl ?_
  obtain ⟨c, P, hc4, hH, hM⟩ := duo_merge o.l hLw.2.2.2.2.2.2.2 o.G S hI (xs (i + 1)) (xs (i + 2)) (xs (i + 3)) (xs (i + 4))
  refine y_hS (k := 6) (As := [.ref (o.G.ad (0)), .int (xs (i + 1)), .int (xs (i + 2)), .int (xs (i + 3)), .int (xs (i + 4)), .ref (o.G.ad (31))]) (rest := []) (pc' := 1354) hB (hLw.2.2.1 _ _ (by omega) (by decide)) hR hH q_596 q_0 ⟨by decide, by decide⟩ (by decide +kernel) q_594 q_595 dc_L_law_1351 rfl rfl rfl (Nat.le_of_ble_eq_true rfl) (fun v S1 hpost => ?_)
  obtain ⟨rfl, hP⟩ := hpost
  obtain ⟨lev, hlev, hC⟩ := hM S1 hP
  exact lh_merge (o := (yat o (o.cells + 1) (o.slots + 6))) hLw ⟨hR.1, hR.2⟩ i hi S1 c hc4 lev hlev hC kk
