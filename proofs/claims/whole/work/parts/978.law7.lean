/-! LAW: find -/
theorem dc_L_law_1185 : decode code 1185 = .ok (.aload_n 1, 1) := by decide +kernel
theorem dc_L_law_1186 : decode code 1186 = .ok (.aload_n 0, 1) := by decide +kernel
theorem dc_L_law_1187 : decode code 1187 = .ok (.iload 4, 2) := by decide +kernel
theorem dc_L_law_1189 : decode code 1189 = .ok (.iconst 1, 1) := by decide +kernel
theorem dc_L_law_1190 : decode code 1190 = .ok (.iadd, 1) := by decide +kernel
theorem dc_L_law_1191 : decode code 1191 = .ok (.iaload, 1) := by decide +kernel
theorem dc_L_law_1192 : decode code 1192 = .ok (.aload_n 0, 1) := by decide +kernel
theorem dc_L_law_1193 : decode code 1193 = .ok (.iload 4, 2) := by decide +kernel
theorem dc_L_law_1195 : decode code 1195 = .ok (.iconst 2, 1) := by decide +kernel
theorem dc_L_law_1196 : decode code 1196 = .ok (.iadd, 1) := by decide +kernel
theorem dc_L_law_1197 : decode code 1197 = .ok (.iaload, 1) := by decide +kernel
theorem dc_L_law_1198 : decode code 1198 = .ok (.aload_n 0, 1) := by decide +kernel
theorem dc_L_law_1199 : decode code 1199 = .ok (.iload 4, 2) := by decide +kernel
theorem dc_L_law_1201 : decode code 1201 = .ok (.iconst 3, 1) := by decide +kernel
theorem dc_L_law_1202 : decode code 1202 = .ok (.iadd, 1) := by decide +kernel
theorem dc_L_law_1203 : decode code 1203 = .ok (.iaload, 1) := by decide +kernel
theorem dc_L_law_1204 : decode code 1204 = .ok (.i2l, 1) := by decide +kernel
theorem dc_L_law_1205 : decode code 1205 = .ok (.bipush 32, 2) := by decide +kernel
theorem dc_L_law_1207 : decode code 1207 = .ok (.lshl, 1) := by decide +kernel
theorem dc_L_law_1208 : decode code 1208 = .ok (.aload_n 0, 1) := by decide +kernel
theorem dc_L_law_1209 : decode code 1209 = .ok (.iload 4, 2) := by decide +kernel
theorem dc_L_law_1211 : decode code 1211 = .ok (.iconst 4, 1) := by decide +kernel
theorem dc_L_law_1212 : decode code 1212 = .ok (.iadd, 1) := by decide +kernel
theorem dc_L_law_1213 : decode code 1213 = .ok (.iaload, 1) := by decide +kernel
theorem dc_L_law_1214 : decode code 1214 = .ok (.i2l, 1) := by decide +kernel
theorem dc_L_law_1215 : decode code 1215 = .ok (.ldc2_w 92, 3) := by decide +kernel
theorem dc_L_law_1218 : decode code 1218 = .ok (.land, 1) := by decide +kernel
theorem dc_L_law_1219 : decode code 1219 = .ok (.lor, 1) := by decide +kernel
theorem dc_L_law_1220 : decode code 1220 = .ok (.aload_n 0, 1) := by decide +kernel
theorem dc_L_law_1221 : decode code 1221 = .ok (.iload 4, 2) := by decide +kernel
theorem dc_L_law_1223 : decode code 1223 = .ok (.iconst 5, 1) := by decide +kernel
theorem dc_L_law_1224 : decode code 1224 = .ok (.iadd, 1) := by decide +kernel
theorem dc_L_law_1225 : decode code 1225 = .ok (.iaload, 1) := by decide +kernel
theorem dc_L_law_1226 : decode code 1226 = .ok (.ifCond .eq 7, 3) := by decide +kernel
theorem dc_L_law_1229 : decode code 1229 = .ok (.iconst 1, 1) := by decide +kernel
theorem dc_L_law_1230 : decode code 1230 = .ok (.goto 4, 3) := by decide +kernel
theorem dc_L_law_1233 : decode code 1233 = .ok (.iconst 0, 1) := by decide +kernel
theorem dc_L_law_1234 : decode code 1234 = .ok (.aload_n 3, 1) := by decide +kernel
theorem dc_L_law_1235 : decode code 1235 = .ok (.invokestatic 158, 3) := by decide +kernel
theorem dc_L_law_1238 : decode code 1238 = .ok (.istore 5, 2) := by decide +kernel
theorem dc_L_law_1240 : decode code 1240 = .ok (.aload_n 2, 1) := by decide +kernel
theorem dc_L_law_1241 : decode code 1241 = .ok (.aload_n 0, 1) := by decide +kernel
theorem dc_L_law_1242 : decode code 1242 = .ok (.iload 4, 2) := by decide +kernel
theorem dc_L_law_1244 : decode code 1244 = .ok (.iconst 1, 1) := by decide +kernel
theorem dc_L_law_1245 : decode code 1245 = .ok (.iadd, 1) := by decide +kernel
theorem dc_L_law_1246 : decode code 1246 = .ok (.iaload, 1) := by decide +kernel
theorem dc_L_law_1247 : decode code 1247 = .ok (.aload_n 0, 1) := by decide +kernel
theorem dc_L_law_1248 : decode code 1248 = .ok (.iload 4, 2) := by decide +kernel
theorem dc_L_law_1250 : decode code 1250 = .ok (.iconst 2, 1) := by decide +kernel
theorem dc_L_law_1251 : decode code 1251 = .ok (.iadd, 1) := by decide +kernel
theorem dc_L_law_1252 : decode code 1252 = .ok (.iaload, 1) := by decide +kernel
theorem dc_L_law_1253 : decode code 1253 = .ok (.aload_n 0, 1) := by decide +kernel
theorem dc_L_law_1254 : decode code 1254 = .ok (.iload 4, 2) := by decide +kernel
theorem dc_L_law_1256 : decode code 1256 = .ok (.iconst 3, 1) := by decide +kernel
theorem dc_L_law_1257 : decode code 1257 = .ok (.iadd, 1) := by decide +kernel
theorem dc_L_law_1258 : decode code 1258 = .ok (.iaload, 1) := by decide +kernel
theorem dc_L_law_1259 : decode code 1259 = .ok (.i2l, 1) := by decide +kernel
theorem dc_L_law_1260 : decode code 1260 = .ok (.bipush 32, 2) := by decide +kernel
theorem dc_L_law_1262 : decode code 1262 = .ok (.lshl, 1) := by decide +kernel
theorem dc_L_law_1263 : decode code 1263 = .ok (.aload_n 0, 1) := by decide +kernel
theorem dc_L_law_1264 : decode code 1264 = .ok (.iload 4, 2) := by decide +kernel
theorem dc_L_law_1266 : decode code 1266 = .ok (.iconst 4, 1) := by decide +kernel
theorem dc_L_law_1267 : decode code 1267 = .ok (.iadd, 1) := by decide +kernel
theorem dc_L_law_1268 : decode code 1268 = .ok (.iaload, 1) := by decide +kernel
theorem dc_L_law_1269 : decode code 1269 = .ok (.i2l, 1) := by decide +kernel
theorem dc_L_law_1270 : decode code 1270 = .ok (.ldc2_w 92, 3) := by decide +kernel
theorem dc_L_law_1273 : decode code 1273 = .ok (.land, 1) := by decide +kernel
theorem dc_L_law_1274 : decode code 1274 = .ok (.lor, 1) := by decide +kernel
theorem dc_L_law_1275 : decode code 1275 = .ok (.aload_n 0, 1) := by decide +kernel
theorem dc_L_law_1276 : decode code 1276 = .ok (.iload 4, 2) := by decide +kernel
theorem dc_L_law_1278 : decode code 1278 = .ok (.iconst 5, 1) := by decide +kernel
theorem dc_L_law_1279 : decode code 1279 = .ok (.iadd, 1) := by decide +kernel
theorem dc_L_law_1280 : decode code 1280 = .ok (.iaload, 1) := by decide +kernel
theorem dc_L_law_1281 : decode code 1281 = .ok (.ifCond .eq 7, 3) := by decide +kernel
theorem dc_L_law_1284 : decode code 1284 = .ok (.iconst 1, 1) := by decide +kernel
theorem dc_L_law_1285 : decode code 1285 = .ok (.goto 4, 3) := by decide +kernel
theorem dc_L_law_1288 : decode code 1288 = .ok (.iconst 0, 1) := by decide +kernel
theorem dc_L_law_1289 : decode code 1289 = .ok (.invokevirtual 161, 3) := by decide +kernel
theorem dc_L_law_1292 : decode code 1292 = .ok (.istore 6, 2) := by decide +kernel
theorem dc_L_law_1294 : decode code 1294 = .ok (.aload_n 2, 1) := by decide +kernel
theorem dc_L_law_1295 : decode code 1295 = .ok (.invokevirtual 100, 3) := by decide +kernel
theorem dc_L_law_1298 : decode code 1298 = .ok (.iload 5, 2) := by decide +kernel
theorem dc_L_law_1300 : decode code 1300 = .ok (.if_icmp .eq 5, 3) := by decide +kernel
theorem dc_L_law_1303 : decode code 1303 = .ok (.iconst 0, 1) := by decide +kernel
theorem dc_L_law_1304 : decode code 1304 = .ok (.ireturn, 1) := by decide +kernel
theorem dc_L_law_1305 : decode code 1305 = .ok (.iload 5, 2) := by decide +kernel
theorem dc_L_law_1307 : decode code 1307 = .ok (.ifCond .ne 15, 3) := by decide +kernel
theorem dc_L_law_1310 : decode code 1310 = .ok (.aload_n 3, 1) := by decide +kernel
theorem dc_L_law_1311 : decode code 1311 = .ok (.iconst 0, 1) := by decide +kernel
theorem dc_L_law_1312 : decode code 1312 = .ok (.laload, 1) := by decide +kernel
theorem dc_L_law_1313 : decode code 1313 = .ok (.iload 6, 2) := by decide +kernel
theorem dc_L_law_1315 : decode code 1315 = .ok (.i2l, 1) := by decide +kernel
theorem dc_L_law_1316 : decode code 1316 = .ok (.lcmp, 1) := by decide +kernel
theorem dc_L_law_1317 : decode code 1317 = .ok (.ifCond .eq 5, 3) := by decide +kernel
theorem dc_L_law_1320 : decode code 1320 = .ok (.iconst 0, 1) := by decide +kernel
theorem dc_L_law_1321 : decode code 1321 = .ok (.ireturn, 1) := by decide +kernel
theorem dc_L_law_1322 : decode code 1322 = .ok (.goto 278, 3) := by decide +kernel
set_option maxHeartbeats 4000000 in
set_option maxRecDepth 100000 in
theorem lh_find {o : YO} {b L : Nat} {xs : Nat → Int32} (hLw : yLw o b L xs) (hR : yRm o 0 0) (i : Nat) (hi : i + 7 ≤ L) (S1 : YS) (c : Nat) (hc4 : c < 4) (lev : Nat) (hlev : lev ≤ 30) (bo : Bool) (hbo : bo = true ↔ ¬ xs (i + 5) = 0) (H : yC o.l mn_M_find mb_M_find 10 (some .int) lev o.G [.ref (o.G.ad (24)), .int (xs (i + 1)), .int (xs (i + 2)), .long (((Int32.toInt64 (xs (i + 3))) <<< (Int32.toInt64 (nI (32)) &&& 63)) ||| ((Int32.toInt64 (xs (i + 4))) &&& 4294967295)), .int (yb bo)] S1 (fun v S2 => dI v (gL S2 31 0) c ∧ gF S2 24 0 = nI c ∧ yInv S2)) (kk : ∀ S2 : YS, yInv S2 → yW o S2 1600 [(4, .int (nI (i))), (3, .ref (o.G.ad (31))), (2, .ref (o.G.ad (24))), (1, .ref (o.G.ad (0))), (0, .ref (b))] []) : yW o S1 1238 [(4, .int (nI (i))), (3, .ref (o.G.ad (31))), (2, .ref (o.G.ad (24))), (1, .ref (o.G.ad (0))), (0, .ref (b))] [.int (nI c)] := by
  have hB := hLw.1
  have hm := hLw.2.1
  have hL := hLw.2.2.2.2.2.2.1
  refine y_istore (pc' := 1240) (lv' := [(5, .int (nI (c))), (4, .int (nI (i))), (3, .ref (o.G.ad (31))), (2, .ref (o.G.ad (24))), (1, .ref (o.G.ad (0))), (0, .ref (b))]) hB hm dc_L_law_1238 rfl (by decide) rfl ?_
  refine y_aload_n (pc' := 1241) hB dc_L_law_1240 rfl rfl 3 rfl ?_
  refine y_aload_n (pc' := 1242) hB dc_L_law_1241 rfl rfl 5 rfl ?_
  refine y_iload (pc' := 1244) hB dc_L_law_1242 rfl 1 rfl ?_
  refine y_iconst (v := nI 1) (pc' := 1245) hB dc_L_law_1244 rfl rfl ?_
  refine n_iadd (x := i) (y := 1) (pc' := 1246) hB dc_L_law_1245 rfl ?_
  refine y_sld (j := i + 1) (pc' := 1247) hLw dc_L_law_1246 rfl (by omega) ?_
  refine y_aload_n (pc' := 1248) hB dc_L_law_1247 rfl rfl 5 rfl ?_
  refine y_iload (pc' := 1250) hB dc_L_law_1248 rfl 1 rfl ?_
  refine y_iconst (v := nI 2) (pc' := 1251) hB dc_L_law_1250 rfl rfl ?_
  refine n_iadd (x := i) (y := 2) (pc' := 1252) hB dc_L_law_1251 rfl ?_
  refine y_sld (j := i + 2) (pc' := 1253) hLw dc_L_law_1252 rfl (by omega) ?_
  refine y_aload_n (pc' := 1254) hB dc_L_law_1253 rfl rfl 5 rfl ?_
  refine y_iload (pc' := 1256) hB dc_L_law_1254 rfl 1 rfl ?_
  refine y_iconst (v := nI 3) (pc' := 1257) hB dc_L_law_1256 rfl rfl ?_
  refine n_iadd (x := i) (y := 3) (pc' := 1258) hB dc_L_law_1257 rfl ?_
  refine y_sld (j := i + 3) (pc' := 1259) hLw dc_L_law_1258 rfl (by omega) ?_
  refine y_i2l (v := Int32.toInt64 (xs (i + 3))) (pc' := 1260) hB dc_L_law_1259 rfl rfl ?_
  refine y_bipush (v := nI 32) (pc' := 1262) hB dc_L_law_1260 rfl (by decide) ?_
  refine y_lshl (v := (Int32.toInt64 (xs (i + 3))) <<< (Int32.toInt64 (nI (32)) &&& 63)) (pc' := 1263) hB dc_L_law_1262 rfl rfl ?_
  refine y_aload_n (pc' := 1264) hB dc_L_law_1263 rfl rfl 5 rfl ?_
  refine y_iload (pc' := 1266) hB dc_L_law_1264 rfl 1 rfl ?_
  refine y_iconst (v := nI 4) (pc' := 1267) hB dc_L_law_1266 rfl rfl ?_
  refine n_iadd (x := i) (y := 4) (pc' := 1268) hB dc_L_law_1267 rfl ?_
  refine y_sld (j := i + 4) (pc' := 1269) hLw dc_L_law_1268 rfl (by omega) ?_
  refine y_i2l (v := Int32.toInt64 (xs (i + 4))) (pc' := 1270) hB dc_L_law_1269 rfl rfl ?_
  refine y_ldc2 (v := 4294967295) (pc' := 1273) hB dc_L_law_1270 rfl q_822 ?_
  refine y_land (v := (Int32.toInt64 (xs (i + 4))) &&& 4294967295) (pc' := 1274) hB dc_L_law_1273 rfl rfl ?_
  refine y_lor (v := ((Int32.toInt64 (xs (i + 3))) <<< (Int32.toInt64 (nI (32)) &&& 63)) ||| ((Int32.toInt64 (xs (i + 4))) &&& 4294967295)) (pc' := 1275) hB dc_L_law_1274 rfl rfl ?_
  refine y_aload_n (pc' := 1276) hB dc_L_law_1275 rfl rfl 5 rfl ?_
  refine y_iload (pc' := 1278) hB dc_L_law_1276 rfl 1 rfl ?_
  refine y_iconst (v := nI 5) (pc' := 1279) hB dc_L_law_1278 rfl rfl ?_
  refine n_iadd (x := i) (y := 5) (pc' := 1280) hB dc_L_law_1279 rfl ?_
  refine y_sld (j := i + 5) (pc' := 1281) hLw dc_L_law_1280 rfl (by omega) ?_
  refine y_if_eq (x := xs (i + 5)) (pc' := 1284) (tg := 1288) hB dc_L_law_1281 rfl rfl (fun b1 => ?_) (fun b1 => ?_)
  · have eb : bo = false := Bool.eq_false_iff.mpr (fun e => hbo.mp e b1)
    subst eb
    refine y_iconst (v := nI 0) (pc' := 1289) hB dc_L_law_1288 rfl rfl ?_
    refine y_topi (y := yb false) (by decide) ?_
    refine y_gV (c := 24) (ci := 4) (As := [.int (xs (i + 1)), .int (xs (i + 2)), .long (((Int32.toInt64 (xs (i + 3))) <<< (Int32.toInt64 (nI (32)) &&& 63)) ||| ((Int32.toInt64 (xs (i + 4))) &&& 4294967295)), .int (yb false)]) (rest := []) (pc' := 1292) hB (hLw.2.2.1 _ _ (by omega) (by decide)) hR (H) mm_M_find q_793 q_794 q_795 (by decide) rfl rfl dc_L_law_1289 rfl rfl rfl (Nat.le_of_ble_eq_true rfl) (fun v S' hpost => ?_)
    obtain ⟨hd0, hcode, hI2⟩ := hpost
    obtain ⟨r, rfl, hr⟩ := hd0
    show yW o (S') 1292 [(5, .int (nI (c))), (4, .int (nI (i))), (3, .ref (o.G.ad (31))), (2, .ref (o.G.ad (24))), (1, .ref (o.G.ad (0))), (0, .ref (b))] [.int (r)]
    refine y_istore (pc' := 1294) (lv' := [(6, .int (r)), (5, .int (nI (c))), (4, .int (nI (i))), (3, .ref (o.G.ad (31))), (2, .ref (o.G.ad (24))), (1, .ref (o.G.ad (0))), (0, .ref (b))]) hB hm dc_L_law_1292 rfl (by decide) rfl ?_
    refine y_aload_n (pc' := 1295) hB dc_L_law_1294 rfl rfl 4 rfl ?_
    refine y_gV (c := 24) (ci := 4) (As := []) (rest := []) (pc' := 1298) hB (hLw.2.2.1 _ _ (by decide) (by decide)) hR (ct_M_thrown o.l o.G S') mm_M_thrown q_664 q_665 q_666 (by decide) rfl rfl dc_L_law_1295 rfl rfl rfl (Nat.le_of_ble_eq_true rfl) (fun v S' hpost => ?_)
    obtain ⟨rfl, hSS⟩ := hpost
    subst hSS
    show yW o (S') 1298 [(6, .int (r)), (5, .int (nI (c))), (4, .int (nI (i))), (3, .ref (o.G.ad (31))), (2, .ref (o.G.ad (24))), (1, .ref (o.G.ad (0))), (0, .ref (b))] [.int (gF S' 24 0)]
    refine y_topi (y := nI (c)) (hcode) ?_
    refine y_iload (pc' := 1300) hB dc_L_law_1298 rfl 1 rfl ?_
    refine n_icmp_eq (pc' := 1303) (tg := 1305) hB dc_L_law_1300 rfl rfl (by omega) (by omega) (fun b2 => ?_) (fun b2 => ?_)
    · refine y_iload (pc' := 1307) hB dc_L_law_1305 rfl 1 rfl ?_
      refine n_if_ne (pc' := 1310) (tg := 1322) hB dc_L_law_1307 rfl rfl (by omega) (fun b3 => ?_) (fun b3 => ?_)
      · refine y_goto (tg := 1600) hB dc_L_law_1322 rfl ?_
        refine y_sub [2, 3, 4, 5, 6] rfl ?_
        exact kk _ hI2
      · have e0 : c = 0 := by omega
        refine y_aload_n (pc' := 1311) hB dc_L_law_1310 rfl rfl 3 rfl ?_
        refine y_iconst (v := nI 0) (pc' := 1312) hB dc_L_law_1311 rfl rfl ?_
        refine y_lald (c := 31) (n := 1) (j := 0) (pc' := 1313) hB dc_L_law_1312 rfl (by decide) rfl (by omega) (by decide) ?_
        refine y_iload (pc' := 1315) hB dc_L_law_1313 rfl 0 rfl ?_
        refine y_i2l (v := Int32.toInt64 (r)) (pc' := 1316) hB dc_L_law_1315 rfl rfl ?_
        refine y_lcmp (pc' := 1317) hB dc_L_law_1316 rfl ?_
        refine y_if_eq (x := lg_cmp (gL (S') (31) (0)) (Int32.toInt64 (r))) (pc' := 1320) (tg := 1322) hB dc_L_law_1317 rfl rfl (fun b4 => ?_) (fun b4 => ?_)
        · refine y_goto (tg := 1600) hB dc_L_law_1322 rfl ?_
          refine y_sub [2, 3, 4, 5, 6] rfl ?_
          exact kk _ hI2
        · exact absurd (lg_0.mpr (hr e0)) b4
    · omega
  · have eb : bo = true := hbo.mpr b1
    subst eb
    refine y_iconst (v := nI 1) (pc' := 1285) hB dc_L_law_1284 rfl rfl ?_
    refine y_goto (tg := 1289) hB dc_L_law_1285 rfl ?_
    refine y_topi (y := yb true) (by decide) ?_
    refine y_gV (c := 24) (ci := 4) (As := [.int (xs (i + 1)), .int (xs (i + 2)), .long (((Int32.toInt64 (xs (i + 3))) <<< (Int32.toInt64 (nI (32)) &&& 63)) ||| ((Int32.toInt64 (xs (i + 4))) &&& 4294967295)), .int (yb true)]) (rest := []) (pc' := 1292) hB (hLw.2.2.1 _ _ (by omega) (by decide)) hR (H) mm_M_find q_793 q_794 q_795 (by decide) rfl rfl dc_L_law_1289 rfl rfl rfl (Nat.le_of_ble_eq_true rfl) (fun v S' hpost => ?_)
    obtain ⟨hd0, hcode, hI2⟩ := hpost
    obtain ⟨r, rfl, hr⟩ := hd0
    show yW o (S') 1292 [(5, .int (nI (c))), (4, .int (nI (i))), (3, .ref (o.G.ad (31))), (2, .ref (o.G.ad (24))), (1, .ref (o.G.ad (0))), (0, .ref (b))] [.int (r)]
    refine y_istore (pc' := 1294) (lv' := [(6, .int (r)), (5, .int (nI (c))), (4, .int (nI (i))), (3, .ref (o.G.ad (31))), (2, .ref (o.G.ad (24))), (1, .ref (o.G.ad (0))), (0, .ref (b))]) hB hm dc_L_law_1292 rfl (by decide) rfl ?_
    refine y_aload_n (pc' := 1295) hB dc_L_law_1294 rfl rfl 4 rfl ?_
    refine y_gV (c := 24) (ci := 4) (As := []) (rest := []) (pc' := 1298) hB (hLw.2.2.1 _ _ (by decide) (by decide)) hR (ct_M_thrown o.l o.G S') mm_M_thrown q_664 q_665 q_666 (by decide) rfl rfl dc_L_law_1295 rfl rfl rfl (Nat.le_of_ble_eq_true rfl) (fun v S' hpost => ?_)
    obtain ⟨rfl, hSS⟩ := hpost
    subst hSS
    show yW o (S') 1298 [(6, .int (r)), (5, .int (nI (c))), (4, .int (nI (i))), (3, .ref (o.G.ad (31))), (2, .ref (o.G.ad (24))), (1, .ref (o.G.ad (0))), (0, .ref (b))] [.int (gF S' 24 0)]
    refine y_topi (y := nI (c)) (hcode) ?_
    refine y_iload (pc' := 1300) hB dc_L_law_1298 rfl 1 rfl ?_
    refine n_icmp_eq (pc' := 1303) (tg := 1305) hB dc_L_law_1300 rfl rfl (by omega) (by omega) (fun b2 => ?_) (fun b2 => ?_)
    · refine y_iload (pc' := 1307) hB dc_L_law_1305 rfl 1 rfl ?_
      refine n_if_ne (pc' := 1310) (tg := 1322) hB dc_L_law_1307 rfl rfl (by omega) (fun b3 => ?_) (fun b3 => ?_)
      · refine y_goto (tg := 1600) hB dc_L_law_1322 rfl ?_
        refine y_sub [2, 3, 4, 5, 6] rfl ?_
        exact kk _ hI2
      · have e0 : c = 0 := by omega
        refine y_aload_n (pc' := 1311) hB dc_L_law_1310 rfl rfl 3 rfl ?_
        refine y_iconst (v := nI 0) (pc' := 1312) hB dc_L_law_1311 rfl rfl ?_
        refine y_lald (c := 31) (n := 1) (j := 0) (pc' := 1313) hB dc_L_law_1312 rfl (by decide) rfl (by omega) (by decide) ?_
        refine y_iload (pc' := 1315) hB dc_L_law_1313 rfl 0 rfl ?_
        refine y_i2l (v := Int32.toInt64 (r)) (pc' := 1316) hB dc_L_law_1315 rfl rfl ?_
        refine y_lcmp (pc' := 1317) hB dc_L_law_1316 rfl ?_
        refine y_if_eq (x := lg_cmp (gL (S') (31) (0)) (Int32.toInt64 (r))) (pc' := 1320) (tg := 1322) hB dc_L_law_1317 rfl rfl (fun b4 => ?_) (fun b4 => ?_)
        · refine y_goto (tg := 1600) hB dc_L_law_1322 rfl ?_
          refine y_sub [2, 3, 4, 5, 6] rfl ?_
          exact kk _ hI2
        · exact absurd (lg_0.mpr (hr e0)) b4
    · omega
set_option maxHeartbeats 4000000 in
set_option maxRecDepth 100000 in
theorem lg_find {o : YO} {b L : Nat} {xs : Nat → Int32} (hLw : yLw o b L xs) (hR : yRm o 1 6) (i : Nat) (hi : i + 7 ≤ L) (S : YS) (hI : yInv S) (kk : ∀ S2 : YS, yInv S2 → yW (yat o (o.cells + 1) (o.slots + 6)) S2 1600 [(4, .int (nI (i))), (3, .ref (o.G.ad (31))), (2, .ref (o.G.ad (24))), (1, .ref (o.G.ad (0))), (0, .ref (b))] []) : yW o S 1185 [(4, .int (nI (i))), (3, .ref (o.G.ad (31))), (2, .ref (o.G.ad (24))), (1, .ref (o.G.ad (0))), (0, .ref (b))] [] := by
  have hB := hLw.1
  have hm := hLw.2.1
  have hL := hLw.2.2.2.2.2.2.1
  refine y_aload_n (pc' := 1186) hB dc_L_law_1185 rfl rfl 3 rfl ?_
  refine y_aload_n (pc' := 1187) hB dc_L_law_1186 rfl rfl 4 rfl ?_
  refine y_iload (pc' := 1189) hB dc_L_law_1187 rfl 0 rfl ?_
  refine y_iconst (v := nI 1) (pc' := 1190) hB dc_L_law_1189 rfl rfl ?_
  refine n_iadd (x := i) (y := 1) (pc' := 1191) hB dc_L_law_1190 rfl ?_
  refine y_sld (j := i + 1) (pc' := 1192) hLw dc_L_law_1191 rfl (by omega) ?_
  refine y_aload_n (pc' := 1193) hB dc_L_law_1192 rfl rfl 4 rfl ?_
  refine y_iload (pc' := 1195) hB dc_L_law_1193 rfl 0 rfl ?_
  refine y_iconst (v := nI 2) (pc' := 1196) hB dc_L_law_1195 rfl rfl ?_
  refine n_iadd (x := i) (y := 2) (pc' := 1197) hB dc_L_law_1196 rfl ?_
  refine y_sld (j := i + 2) (pc' := 1198) hLw dc_L_law_1197 rfl (by omega) ?_
  refine y_aload_n (pc' := 1199) hB dc_L_law_1198 rfl rfl 4 rfl ?_
  refine y_iload (pc' := 1201) hB dc_L_law_1199 rfl 0 rfl ?_
  refine y_iconst (v := nI 3) (pc' := 1202) hB dc_L_law_1201 rfl rfl ?_
  refine n_iadd (x := i) (y := 3) (pc' := 1203) hB dc_L_law_1202 rfl ?_
  refine y_sld (j := i + 3) (pc' := 1204) hLw dc_L_law_1203 rfl (by omega) ?_
  refine y_i2l (v := Int32.toInt64 (xs (i + 3))) (pc' := 1205) hB dc_L_law_1204 rfl rfl ?_
  refine y_bipush (v := nI 32) (pc' := 1207) hB dc_L_law_1205 rfl (by decide) ?_
  refine y_lshl (v := (Int32.toInt64 (xs (i + 3))) <<< (Int32.toInt64 (nI (32)) &&& 63)) (pc' := 1208) hB dc_L_law_1207 rfl rfl ?_
  refine y_aload_n (pc' := 1209) hB dc_L_law_1208 rfl rfl 4 rfl ?_
  refine y_iload (pc' := 1211) hB dc_L_law_1209 rfl 0 rfl ?_
  refine y_iconst (v := nI 4) (pc' := 1212) hB dc_L_law_1211 rfl rfl ?_
  refine n_iadd (x := i) (y := 4) (pc' := 1213) hB dc_L_law_1212 rfl ?_
  refine y_sld (j := i + 4) (pc' := 1214) hLw dc_L_law_1213 rfl (by omega) ?_
  refine y_i2l (v := Int32.toInt64 (xs (i + 4))) (pc' := 1215) hB dc_L_law_1214 rfl rfl ?_
  refine y_ldc2 (v := 4294967295) (pc' := 1218) hB dc_L_law_1215 rfl q_822 ?_
  refine y_land (v := (Int32.toInt64 (xs (i + 4))) &&& 4294967295) (pc' := 1219) hB dc_L_law_1218 rfl rfl ?_
  refine y_lor (v := ((Int32.toInt64 (xs (i + 3))) <<< (Int32.toInt64 (nI (32)) &&& 63)) ||| ((Int32.toInt64 (xs (i + 4))) &&& 4294967295)) (pc' := 1220) hB dc_L_law_1219 rfl rfl ?_
  refine y_aload_n (pc' := 1221) hB dc_L_law_1220 rfl rfl 4 rfl ?_
  refine y_iload (pc' := 1223) hB dc_L_law_1221 rfl 0 rfl ?_
  refine y_iconst (v := nI 5) (pc' := 1224) hB dc_L_law_1223 rfl rfl ?_
  refine n_iadd (x := i) (y := 5) (pc' := 1225) hB dc_L_law_1224 rfl ?_
  refine y_sld (j := i + 5) (pc' := 1226) hLw dc_L_law_1225 rfl (by omega) ?_
  refine y_if_eq (x := xs (i + 5)) (pc' := 1229) (tg := 1233) hB dc_L_law_1226 rfl rfl (fun b1 => ?_) (fun b1 => ?_)
  · refine y_iconst (v := nI 0) (pc' := 1234) hB dc_L_law_1233 rfl rfl ?_
    refine y_topi (y := yb false) (by decide) ?_
    refine y_aload_n (pc' := 1235) hB dc_L_law_1234 rfl rfl 1 rfl ?_
    obtain ⟨c, P, hc4, hH, hM⟩ := duo_find o.l hLw.2.2.2.2.2.2.2 o.G S hI (xs (i + 1)) (xs (i + 2)) (((Int32.toInt64 (xs (i + 3))) <<< (Int32.toInt64 (nI (32)) &&& 63)) ||| ((Int32.toInt64 (xs (i + 4))) &&& 4294967295)) false
    refine y_hS (k := 6) (As := [.ref (o.G.ad (0)), .int (xs (i + 1)), .int (xs (i + 2)), .long (((Int32.toInt64 (xs (i + 3))) <<< (Int32.toInt64 (nI (32)) &&& 63)) ||| ((Int32.toInt64 (xs (i + 4))) &&& 4294967295)), .int (yb false), .ref (o.G.ad (31))]) (rest := []) (pc' := 1238) hB (hLw.2.2.1 _ _ (by omega) (by decide)) hR hH q_584 q_0 ⟨by decide, by decide⟩ (by decide +kernel) q_582 q_583 dc_L_law_1235 rfl rfl rfl (Nat.le_of_ble_eq_true rfl) (fun v S1 hpost => ?_)
    obtain ⟨rfl, hP⟩ := hpost
    obtain ⟨lev, hlev, hC⟩ := hM S1 hP
    exact lh_find (o := (yat o (o.cells + 1) (o.slots + 6))) hLw ⟨hR.1, hR.2⟩ i hi S1 c hc4 lev hlev false ⟨fun z => absurd z (by decide), fun z => absurd b1 z⟩ hC kk
  · refine y_iconst (v := nI 1) (pc' := 1230) hB dc_L_law_1229 rfl rfl ?_
    refine y_goto (tg := 1234) hB dc_L_law_1230 rfl ?_
    refine y_topi (y := yb true) (by decide) ?_
    refine y_aload_n (pc' := 1235) hB dc_L_law_1234 rfl rfl 1 rfl ?_
    obtain ⟨c, P, hc4, hH, hM⟩ := duo_find o.l hLw.2.2.2.2.2.2.2 o.G S hI (xs (i + 1)) (xs (i + 2)) (((Int32.toInt64 (xs (i + 3))) <<< (Int32.toInt64 (nI (32)) &&& 63)) ||| ((Int32.toInt64 (xs (i + 4))) &&& 4294967295)) true
    refine y_hS (k := 6) (As := [.ref (o.G.ad (0)), .int (xs (i + 1)), .int (xs (i + 2)), .long (((Int32.toInt64 (xs (i + 3))) <<< (Int32.toInt64 (nI (32)) &&& 63)) ||| ((Int32.toInt64 (xs (i + 4))) &&& 4294967295)), .int (yb true), .ref (o.G.ad (31))]) (rest := []) (pc' := 1238) hB (hLw.2.2.1 _ _ (by omega) (by decide)) hR hH q_584 q_0 ⟨by decide, by decide⟩ (by decide +kernel) q_582 q_583 dc_L_law_1235 rfl rfl rfl (Nat.le_of_ble_eq_true rfl) (fun v S1 hpost => ?_)
    obtain ⟨rfl, hP⟩ := hpost
    obtain ⟨lev, hlev, hC⟩ := hM S1 hP
    exact lh_find (o := (yat o (o.cells + 1) (o.slots + 6))) hLw ⟨hR.1, hR.2⟩ i hi S1 c hc4 lev hlev true ⟨fun _ => b1, fun _ => rfl⟩ hC kk
