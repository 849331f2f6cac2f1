/-! LAW: add -/
theorem dc_L_law_140 : decode code 140 = .ok (.aload_n 1, 1) := by decide +kernel
theorem dc_L_law_141 : decode code 141 = .ok (.aload_n 0, 1) := by decide +kernel
theorem dc_L_law_142 : decode code 142 = .ok (.iload 4, 2) := by decide +kernel
theorem dc_L_law_144 : decode code 144 = .ok (.iconst 1, 1) := by decide +kernel
theorem dc_L_law_145 : decode code 145 = .ok (.iadd, 1) := by decide +kernel
theorem dc_L_law_146 : decode code 146 = .ok (.iaload, 1) := by decide +kernel
theorem dc_L_law_147 : decode code 147 = .ok (.aload_n 0, 1) := by decide +kernel
theorem dc_L_law_148 : decode code 148 = .ok (.iload 4, 2) := by decide +kernel
theorem dc_L_law_150 : decode code 150 = .ok (.iconst 2, 1) := by decide +kernel
theorem dc_L_law_151 : decode code 151 = .ok (.iadd, 1) := by decide +kernel
theorem dc_L_law_152 : decode code 152 = .ok (.iaload, 1) := by decide +kernel
theorem dc_L_law_153 : decode code 153 = .ok (.i2l, 1) := by decide +kernel
theorem dc_L_law_154 : decode code 154 = .ok (.bipush 32, 2) := by decide +kernel
theorem dc_L_law_156 : decode code 156 = .ok (.lshl, 1) := by decide +kernel
theorem dc_L_law_157 : decode code 157 = .ok (.aload_n 0, 1) := by decide +kernel
theorem dc_L_law_158 : decode code 158 = .ok (.iload 4, 2) := by decide +kernel
theorem dc_L_law_160 : decode code 160 = .ok (.iconst 3, 1) := by decide +kernel
theorem dc_L_law_161 : decode code 161 = .ok (.iadd, 1) := by decide +kernel
theorem dc_L_law_162 : decode code 162 = .ok (.iaload, 1) := by decide +kernel
theorem dc_L_law_163 : decode code 163 = .ok (.i2l, 1) := by decide +kernel
theorem dc_L_law_164 : decode code 164 = .ok (.ldc2_w 92, 3) := by decide +kernel
theorem dc_L_law_167 : decode code 167 = .ok (.land, 1) := by decide +kernel
theorem dc_L_law_168 : decode code 168 = .ok (.lor, 1) := by decide +kernel
theorem dc_L_law_169 : decode code 169 = .ok (.aload_n 0, 1) := by decide +kernel
theorem dc_L_law_170 : decode code 170 = .ok (.iload 4, 2) := by decide +kernel
theorem dc_L_law_172 : decode code 172 = .ok (.iconst 4, 1) := by decide +kernel
theorem dc_L_law_173 : decode code 173 = .ok (.iadd, 1) := by decide +kernel
theorem dc_L_law_174 : decode code 174 = .ok (.iaload, 1) := by decide +kernel
theorem dc_L_law_175 : decode code 175 = .ok (.aload_n 3, 1) := by decide +kernel
theorem dc_L_law_176 : decode code 176 = .ok (.invokestatic 94, 3) := by decide +kernel
theorem dc_L_law_179 : decode code 179 = .ok (.istore 5, 2) := by decide +kernel
theorem dc_L_law_181 : decode code 181 = .ok (.aload_n 2, 1) := by decide +kernel
theorem dc_L_law_182 : decode code 182 = .ok (.aload_n 0, 1) := by decide +kernel
theorem dc_L_law_183 : decode code 183 = .ok (.iload 4, 2) := by decide +kernel
theorem dc_L_law_185 : decode code 185 = .ok (.iconst 1, 1) := by decide +kernel
theorem dc_L_law_186 : decode code 186 = .ok (.iadd, 1) := by decide +kernel
theorem dc_L_law_187 : decode code 187 = .ok (.iaload, 1) := by decide +kernel
theorem dc_L_law_188 : decode code 188 = .ok (.aload_n 0, 1) := by decide +kernel
theorem dc_L_law_189 : decode code 189 = .ok (.iload 4, 2) := by decide +kernel
theorem dc_L_law_191 : decode code 191 = .ok (.iconst 2, 1) := by decide +kernel
theorem dc_L_law_192 : decode code 192 = .ok (.iadd, 1) := by decide +kernel
theorem dc_L_law_193 : decode code 193 = .ok (.iaload, 1) := by decide +kernel
theorem dc_L_law_194 : decode code 194 = .ok (.i2l, 1) := by decide +kernel
theorem dc_L_law_195 : decode code 195 = .ok (.bipush 32, 2) := by decide +kernel
theorem dc_L_law_197 : decode code 197 = .ok (.lshl, 1) := by decide +kernel
theorem dc_L_law_198 : decode code 198 = .ok (.aload_n 0, 1) := by decide +kernel
theorem dc_L_law_199 : decode code 199 = .ok (.iload 4, 2) := by decide +kernel
theorem dc_L_law_201 : decode code 201 = .ok (.iconst 3, 1) := by decide +kernel
theorem dc_L_law_202 : decode code 202 = .ok (.iadd, 1) := by decide +kernel
theorem dc_L_law_203 : decode code 203 = .ok (.iaload, 1) := by decide +kernel
theorem dc_L_law_204 : decode code 204 = .ok (.i2l, 1) := by decide +kernel
theorem dc_L_law_205 : decode code 205 = .ok (.ldc2_w 92, 3) := by decide +kernel
theorem dc_L_law_208 : decode code 208 = .ok (.land, 1) := by decide +kernel
theorem dc_L_law_209 : decode code 209 = .ok (.lor, 1) := by decide +kernel
theorem dc_L_law_210 : decode code 210 = .ok (.aload_n 0, 1) := by decide +kernel
theorem dc_L_law_211 : decode code 211 = .ok (.iload 4, 2) := by decide +kernel
theorem dc_L_law_213 : decode code 213 = .ok (.iconst 4, 1) := by decide +kernel
theorem dc_L_law_214 : decode code 214 = .ok (.iadd, 1) := by decide +kernel
theorem dc_L_law_215 : decode code 215 = .ok (.iaload, 1) := by decide +kernel
theorem dc_L_law_216 : decode code 216 = .ok (.invokevirtual 99, 3) := by decide +kernel
theorem dc_L_law_219 : decode code 219 = .ok (.istore 6, 2) := by decide +kernel
theorem dc_L_law_221 : decode code 221 = .ok (.aload_n 2, 1) := by decide +kernel
theorem dc_L_law_222 : decode code 222 = .ok (.invokevirtual 100, 3) := by decide +kernel
theorem dc_L_law_225 : decode code 225 = .ok (.iload 5, 2) := by decide +kernel
theorem dc_L_law_227 : decode code 227 = .ok (.if_icmp .eq 5, 3) := by decide +kernel
theorem dc_L_law_230 : decode code 230 = .ok (.iconst 0, 1) := by decide +kernel
theorem dc_L_law_231 : decode code 231 = .ok (.ireturn, 1) := by decide +kernel
theorem dc_L_law_232 : decode code 232 = .ok (.iload 5, 2) := by decide +kernel
theorem dc_L_law_234 : decode code 234 = .ok (.ifCond .ne 15, 3) := by decide +kernel
theorem dc_L_law_237 : decode code 237 = .ok (.aload_n 3, 1) := by decide +kernel
theorem dc_L_law_238 : decode code 238 = .ok (.iconst 0, 1) := by decide +kernel
theorem dc_L_law_239 : decode code 239 = .ok (.laload, 1) := by decide +kernel
theorem dc_L_law_240 : decode code 240 = .ok (.iload 6, 2) := by decide +kernel
theorem dc_L_law_242 : decode code 242 = .ok (.i2l, 1) := by decide +kernel
theorem dc_L_law_243 : decode code 243 = .ok (.lcmp, 1) := by decide +kernel
theorem dc_L_law_244 : decode code 244 = .ok (.ifCond .eq 5, 3) := by decide +kernel
theorem dc_L_law_247 : decode code 247 = .ok (.iconst 0, 1) := by decide +kernel
theorem dc_L_law_248 : decode code 248 = .ok (.ireturn, 1) := by decide +kernel
theorem dc_L_law_249 : decode code 249 = .ok (.goto 1351, 3) := by decide +kernel
set_option maxHeartbeats 4000000 in
set_option maxRecDepth 100000 in
theorem lh_add {o : YO} {b L : Nat} {xs : Nat → Int32} (hLw : yLw o b L xs) (hR : yRm o 0 0) (i : Nat) (hi : i + 7 ≤ L) (S1 : YS) (c : Nat) (hc4 : c < 4) (lev : Nat) (hlev : lev ≤ 30) (H : yC o.l mn_M_add mb_M_add 5 (some .int) lev o.G [.ref (o.G.ad (24)), .int (xs (i + 1)), .long (((Int32.toInt64 (xs (i + 2))) <<< (Int32.toInt64 (nI (32)) &&& 63)) ||| ((Int32.toInt64 (xs (i + 3))) &&& 4294967295)), .int (xs (i + 4))] S1 (fun v S2 => dI v (gL S2 31 0) c ∧ gF S2 24 0 = nI c ∧ yInv S2)) (kk : ∀ S2 : YS, yInv S2 → yW o S2 1600 [(4, .int (nI (i))), (3, .ref (o.G.ad (31))), (2, .ref (o.G.ad (24))), (1, .ref (o.G.ad (0))), (0, .ref (b))] []) : yW o S1 179 [(4, .int (nI (i))), (3, .ref (o.G.ad (31))), (2, .ref (o.G.ad (24))), (1, .ref (o.G.ad (0))), (0, .ref (b))] [.int (nI c)] := by
  have hB := hLw.1
  have hm := hLw.2.1
  have hL := hLw.2.2.2.2.2.2.1
  refine y_istore (pc' := 181) (lv' := [(5, .int (nI (c))), (4, .int (nI (i))), (3, .ref (o.G.ad (31))), (2, .ref (o.G.ad (24))), (1, .ref (o.G.ad (0))), (0, .ref (b))]) hB hm dc_L_law_179 rfl (by decide) rfl ?_
  refine y_aload_n (pc' := 182) hB dc_L_law_181 rfl rfl 3 rfl ?_
  refine y_aload_n (pc' := 183) hB dc_L_law_182 rfl rfl 5 rfl ?_
  refine y_iload (pc' := 185) hB dc_L_law_183 rfl 1 rfl ?_
  refine y_iconst (v := nI 1) (pc' := 186) hB dc_L_law_185 rfl rfl ?_
  refine n_iadd (x := i) (y := 1) (pc' := 187) hB dc_L_law_186 rfl ?_
  refine y_sld (j := i + 1) (pc' := 188) hLw dc_L_law_187 rfl (by omega) ?_
  refine y_aload_n (pc' := 189) hB dc_L_law_188 rfl rfl 5 rfl ?_
  refine y_iload (pc' := 191) hB dc_L_law_189 rfl 1 rfl ?_
  refine y_iconst (v := nI 2) (pc' := 192) hB dc_L_law_191 rfl rfl ?_
  refine n_iadd (x := i) (y := 2) (pc' := 193) hB dc_L_law_192 rfl ?_
  refine y_sld (j := i + 2) (pc' := 194) hLw dc_L_law_193 rfl (by omega) ?_
  refine y_i2l (v := Int32.toInt64 (xs (i + 2))) (pc' := 195) hB dc_L_law_194 rfl rfl ?_
  refine y_bipush (v := nI 32) (pc' := 197) hB dc_L_law_195 rfl (by decide) ?_
  refine y_lshl (v := (Int32.toInt64 (xs (i + 2))) <<< (Int32.toInt64 (nI (32)) &&& 63)) (pc' := 198) hB dc_L_law_197 rfl rfl ?_
  refine y_aload_n (pc' := 199) hB dc_L_law_198 rfl rfl 5 rfl ?_
  refine y_iload (pc' := 201) hB dc_L_law_199 rfl 1 rfl ?_
  refine y_iconst (v := nI 3) (pc' := 202) hB dc_L_law_201 rfl rfl ?_
  refine n_iadd (x := i) (y := 3) (pc' := 203) hB dc_L_law_202 rfl ?_
  refine y_sld (j := i + 3) (pc' := 204) hLw dc_L_law_203 rfl (by omega) ?_
  refine y_i2l (v := Int32.toInt64 (xs (i + 3))) (pc' := 205) hB dc_L_law_204 rfl rfl ?_
  refine y_ldc2 (v := 4294967295) (pc' := 208) hB dc_L_law_205 rfl q_822 ?_
  refine y_land (v := (Int32.toInt64 (xs (i + 3))) &&& 4294967295) (pc' := 209) hB dc_L_law_208 rfl rfl ?_
  refine y_lor (v := ((Int32.toInt64 (xs (i + 2))) <<< (Int32.toInt64 (nI (32)) &&& 63)) ||| ((Int32.toInt64 (xs (i + 3))) &&& 4294967295)) (pc' := 210) hB dc_L_law_209 rfl rfl ?_
  refine y_aload_n (pc' := 211) hB dc_L_law_210 rfl rfl 5 rfl ?_
  refine y_iload (pc' := 213) hB dc_L_law_211 rfl 1 rfl ?_
  refine y_iconst (v := nI 4) (pc' := 214) hB dc_L_law_213 rfl rfl ?_
  refine n_iadd (x := i) (y := 4) (pc' := 215) hB dc_L_law_214 rfl ?_
  refine y_sld (j := i + 4) (pc' := 216) hLw dc_L_law_215 rfl (by omega) ?_
  refine y_gV (c := 24) (ci := 4) (As := [.int (xs (i + 1)), .long (((Int32.toInt64 (xs (i + 2))) <<< (Int32.toInt64 (nI (32)) &&& 63)) ||| ((Int32.toInt64 (xs (i + 3))) &&& 4294967295)), .int (xs (i + 4))]) (rest := []) (pc' := 219) hB (hLw.2.2.1 _ _ (by omega) (by decide)) hR (H) mm_M_add q_668 q_669 q_670 (by decide) rfl rfl dc_L_law_216 rfl rfl rfl (Nat.le_of_ble_eq_true rfl) (fun v S' hpost => ?_)
  obtain ⟨hd0, hcode, hI2⟩ := hpost
  obtain ⟨r, rfl, hr⟩ := hd0
  show yW o (S') 219 [(5, .int (nI (c))), (4, .int (nI (i))), (3, .ref (o.G.ad (31))), (2, .ref (o.G.ad (24))), (1, .ref (o.G.ad (0))), (0, .ref (b))] [.int (r)]
  refine y_istore (pc' := 221) (lv' := [(6, .int (r)), (5, .int (nI (c))), (4, .int (nI (i))), (3, .ref (o.G.ad (31))), (2, .ref (o.G.ad (24))), (1, .ref (o.G.ad (0))), (0, .ref (b))]) hB hm dc_L_law_219 rfl (by decide) rfl ?_
  refine y_aload_n (pc' := 222) hB dc_L_law_221 rfl rfl 4 rfl ?_
  refine y_gV (c := 24) (ci := 4) (As := []) (rest := []) (pc' := 225) hB (hLw.2.2.1 _ _ (by decide) (by decide)) hR (ct_M_thrown o.l o.G S') mm_M_thrown q_664 q_665 q_666 (by decide) rfl rfl dc_L_law_222 rfl rfl rfl (Nat.le_of_ble_eq_true rfl) (fun v S' hpost => ?_)
  obtain ⟨rfl, hSS⟩ := hpost
  subst hSS
  show yW o (S') 225 [(6, .int (r)), (5, .int (nI (c))), (4, .int (nI (i))), (3, .ref (o.G.ad (31))), (2, .ref (o.G.ad (24))), (1, .ref (o.G.ad (0))), (0, .ref (b))] [.int (gF S' 24 0)]
  refine y_topi (y := nI (c)) (hcode) ?_
  refine y_iload (pc' := 227) hB dc_L_law_225 rfl 1 rfl ?_
  refine n_icmp_eq (pc' := 230) (tg := 232) hB dc_L_law_227 rfl rfl (by omega) (by omega) (fun b2 => ?_) (fun b2 => ?_)
  · refine y_iload (pc' := 234) hB dc_L_law_232 rfl 1 rfl ?_
    refine n_if_ne (pc' := 237) (tg := 249) hB dc_L_law_234 rfl rfl (by omega) (fun b3 => ?_) (fun b3 => ?_)
    · refine y_goto (tg := 1600) hB dc_L_law_249 rfl ?_
      refine y_sub [2, 3, 4, 5, 6] rfl ?_
      exact kk _ hI2
    · have e0 : c = 0 := by omega
      refine y_aload_n (pc' := 238) hB dc_L_law_237 rfl rfl 3 rfl ?_
      refine y_iconst (v := nI 0) (pc' := 239) hB dc_L_law_238 rfl rfl ?_
      refine y_lald (c := 31) (n := 1) (j := 0) (pc' := 240) hB dc_L_law_239 rfl (by decide) rfl (by omega) (by decide) ?_
      refine y_iload (pc' := 242) hB dc_L_law_240 rfl 0 rfl ?_
      refine y_i2l (v := Int32.toInt64 (r)) (pc' := 243) hB dc_L_law_242 rfl rfl ?_
      refine y_lcmp (pc' := 244) hB dc_L_law_243 rfl ?_
      refine y_if_eq (x := lg_cmp (gL (S') (31) (0)) (Int32.toInt64 (r))) (pc' := 247) (tg := 249) hB dc_L_law_244 rfl rfl (fun b4 => ?_) (fun b4 => ?_)
      · refine y_goto (tg := 1600) hB dc_L_law_249 rfl ?_
        refine y_sub [2, 3, 4, 5, 6] rfl ?_
        exact kk _ hI2
      · exact absurd (lg_0.mpr (hr e0)) b4
  · omega
set_option maxHeartbeats 4000000 in
set_option maxRecDepth 100000 in
theorem lg_add {o : YO} {b L : Nat} {xs : Nat → Int32} (hLw : yLw o b L xs) (hR : yRm o 1 6) (i : Nat) (hi : i + 7 ≤ L) (S : YS) (hI : yInv S) (kk : ∀ S2 : YS, yInv S2 → yW (yat o (o.cells + 1) (o.slots + 6)) S2 1600 [(4, .int (nI (i))), (3, .ref (o.G.ad (31))), (2, .ref (o.G.ad (24))), (1, .ref (o.G.ad (0))), (0, .ref (b))] []) : yW o S 140 [(4, .int (nI (i))), (3, .ref (o.G.ad (31))), (2, .ref (o.G.ad (24))), (1, .ref (o.G.ad (0))), (0, .ref (b))] [] := by
  have hB := hLw.1
  have hm := hLw.2.1
  have hL := hLw.2.2.2.2.2.2.1
  refine y_aload_n (pc' := 141) hB dc_L_law_140 rfl rfl 3 rfl ?_
  refine y_aload_n (pc' := 142) hB dc_L_law_141 rfl rfl 4 rfl ?_
  refine y_iload (pc' := 144) hB dc_L_law_142 rfl 0 rfl ?_
  refine y_iconst (v := nI 1) (pc' := 145) hB dc_L_law_144 rfl rfl ?_
  refine n_iadd (x := i) (y := 1) (pc' := 146) hB dc_L_law_145 rfl ?_
  refine y_sld (j := i + 1) (pc' := 147) hLw dc_L_law_146 rfl (by omega) ?_
  refine y_aload_n (pc' := 148) hB dc_L_law_147 rfl rfl 4 rfl ?_
  refine y_iload (pc' := 150) hB dc_L_law_148 rfl 0 rfl ?_
  refine y_iconst (v := nI 2) (pc' := 151) hB dc_L_law_150 rfl rfl ?_
  refine n_iadd (x := i) (y := 2) (pc' := 152) hB dc_L_law_151 rfl ?_
  refine y_sld (j := i + 2) (pc' := 153) hLw dc_L_law_152 rfl (by omega) ?_
  refine y_i2l (v := Int32.toInt64 (xs (i + 2))) (pc' := 154) hB dc_L_law_153 rfl rfl ?_
  refine y_bipush (v := nI 32) (pc' := 156) hB dc_L_law_154 rfl (by decide) ?_
  refine y_lshl (v := (Int32.toInt64 (xs (i + 2))) <<< (Int32.toInt64 (nI (32)) &&& 63)) (pc' := 157) hB dc_L_law_156 rfl rfl ?_
  refine y_aload_n (pc' := 158) hB dc_L_law_157 rfl rfl 4 rfl ?_
  refine y_iload (pc' := 160) hB dc_L_law_158 rfl 0 rfl ?_
  refine y_iconst (v := nI 3) (pc' := 161) hB dc_L_law_160 rfl rfl ?_
  refine n_iadd (x := i) (y := 3) (pc' := 162) hB dc_L_law_161 rfl ?_
  refine y_sld (j := i + 3) (pc' := 163) hLw dc_L_law_162 rfl (by omega) ?_
  refine y_i2l (v := Int32.toInt64 (xs (i + 3))) (pc' := 164) hB dc_L_law_163 rfl rfl ?_
  refine y_ldc2 (v := 4294967295) (pc' := 167) hB dc_L_law_164 rfl q_822 ?_
  refine y_land (v := (Int32.toInt64 (xs (i + 3))) &&& 4294967295) (pc' := 168) hB dc_L_law_167 rfl rfl ?_
  refine y_lor (v := ((Int32.toInt64 (xs (i + 2))) <<< (Int32.toInt64 (nI (32)) &&& 63)) ||| ((Int32.toInt64 (xs (i + 3))) &&& 4294967295)) (pc' := 169) hB dc_L_law_168 rfl rfl ?_
  refine y_aload_n (pc' := 170) hB dc_L_law_169 rfl rfl 4 rfl ?_
  refine y_iload (pc' := 172) hB dc_L_law_170 rfl 0 rfl ?_
  refine y_iconst (v := nI 4) (pc' := 173) hB dc_L_law_172 rfl rfl ?_
  refine n_iadd (x := i) (y := 4) (pc' := 174) hB dc_L_law_173 rfl ?_
  refine y_sld (j := i + 4) (pc' := 175) hLw dc_L_law_174 rfl (by omega) ?_
  refine y_aload_n (pc' := 176) hB dc_L_law_175 rfl rfl 1 rfl ?_
  obtain ⟨c, P, hc4, hH, hM⟩ := duo_add o.l hLw.2.2.2.2.2.2.2 o.G S hI (xs (i + 1)) (((Int32.toInt64 (xs (i + 2))) <<< (Int32.toInt64 (nI (32)) &&& 63)) ||| ((Int32.toInt64 (xs (i + 3))) &&& 4294967295)) (xs (i + 4))
  refine y_hS (k := 5) (As := [.ref (o.G.ad (0)), .int (xs (i + 1)), .long (((Int32.toInt64 (xs (i + 2))) <<< (Int32.toInt64 (nI (32)) &&& 63)) ||| ((Int32.toInt64 (xs (i + 3))) &&& 4294967295)), .int (xs (i + 4)), .ref (o.G.ad (31))]) (rest := []) (pc' := 179) hB (hLw.2.2.1 _ _ (by omega) (by decide)) hR hH q_130 q_0 ⟨by decide, by decide⟩ (by decide +kernel) q_128 q_129 dc_L_law_176 rfl rfl rfl (Nat.le_of_ble_eq_true rfl) (fun v S1 hpost => ?_)
  obtain ⟨rfl, hP⟩ := hpost
  obtain ⟨lev, hlev, hC⟩ := hM S1 hP
  exact lh_add (o := (yat o (o.cells + 1) (o.slots + 6))) hLw ⟨hR.1, hR.2⟩ i hi S1 c hc4 lev hlev hC kk
