/-! PILE: joining from the spare row -/
theorem dc_Pi_joinFromSpare_0 : decode mb_Pi_joinFromSpare 0 = .ok (.iload_n 3, 1) := by decide +kernel
theorem dc_Pi_joinFromSpare_1 : decode mb_Pi_joinFromSpare 1 = .ok (.iload_n 2, 1) := by decide +kernel
theorem dc_Pi_joinFromSpare_2 : decode mb_Pi_joinFromSpare 2 = .ok (.isub, 1) := by decide +kernel
theorem dc_Pi_joinFromSpare_3 : decode mb_Pi_joinFromSpare 3 = .ok (.istore 5, 2) := by decide +kernel
theorem dc_Pi_joinFromSpare_5 : decode mb_Pi_joinFromSpare 5 = .ok (.iconst 0, 1) := by decide +kernel
theorem dc_Pi_joinFromSpare_6 : decode mb_Pi_joinFromSpare 6 = .ok (.istore 6, 2) := by decide +kernel
theorem dc_Pi_joinFromSpare_8 : decode mb_Pi_joinFromSpare 8 = .ok (.iload_n 3, 1) := by decide +kernel
theorem dc_Pi_joinFromSpare_9 : decode mb_Pi_joinFromSpare 9 = .ok (.istore 7, 2) := by decide +kernel
theorem dc_Pi_joinFromSpare_11 : decode mb_Pi_joinFromSpare 11 = .ok (.iconst 0, 1) := by decide +kernel
theorem dc_Pi_joinFromSpare_12 : decode mb_Pi_joinFromSpare 12 = .ok (.istore 8, 2) := by decide +kernel
theorem dc_Pi_joinFromSpare_14 : decode mb_Pi_joinFromSpare 14 = .ok (.iconst 0, 1) := by decide +kernel
theorem dc_Pi_joinFromSpare_15 : decode mb_Pi_joinFromSpare 15 = .ok (.istore 9, 2) := by decide +kernel
theorem dc_Pi_joinFromSpare_17 : decode mb_Pi_joinFromSpare 17 = .ok (.iload_n 2, 1) := by decide +kernel
theorem dc_Pi_joinFromSpare_18 : decode mb_Pi_joinFromSpare 18 = .ok (.istore 10, 2) := by decide +kernel
theorem dc_Pi_joinFromSpare_20 : decode mb_Pi_joinFromSpare 20 = .ok (.iload 10, 2) := by decide +kernel
theorem dc_Pi_joinFromSpare_22 : decode mb_Pi_joinFromSpare 22 = .ok (.iload 4, 2) := by decide +kernel
theorem dc_Pi_joinFromSpare_24 : decode mb_Pi_joinFromSpare 24 = .ok (.if_icmp .ge 206, 3) := by decide +kernel
theorem dc_Pi_joinFromSpare_27 : decode mb_Pi_joinFromSpare 27 = .ok (.iload 6, 2) := by decide +kernel
theorem dc_Pi_joinFromSpare_29 : decode mb_Pi_joinFromSpare 29 = .ok (.iload 5, 2) := by decide +kernel
theorem dc_Pi_joinFromSpare_31 : decode mb_Pi_joinFromSpare 31 = .ok (.if_icmp .ge 199, 3) := by decide +kernel
theorem dc_Pi_joinFromSpare_34 : decode mb_Pi_joinFromSpare 34 = .ok (.iload 7, 2) := by decide +kernel
theorem dc_Pi_joinFromSpare_36 : decode mb_Pi_joinFromSpare 36 = .ok (.iload 4, 2) := by decide +kernel
theorem dc_Pi_joinFromSpare_38 : decode mb_Pi_joinFromSpare 38 = .ok (.if_icmp .ge 192, 3) := by decide +kernel
theorem dc_Pi_joinFromSpare_41 : decode mb_Pi_joinFromSpare 41 = .ok (.iload_n 2, 1) := by decide +kernel
theorem dc_Pi_joinFromSpare_42 : decode mb_Pi_joinFromSpare 42 = .ok (.iload 6, 2) := by decide +kernel
theorem dc_Pi_joinFromSpare_44 : decode mb_Pi_joinFromSpare 44 = .ok (.iadd, 1) := by decide +kernel
theorem dc_Pi_joinFromSpare_45 : decode mb_Pi_joinFromSpare 45 = .ok (.iload 7, 2) := by decide +kernel
theorem dc_Pi_joinFromSpare_47 : decode mb_Pi_joinFromSpare 47 = .ok (.iadd, 1) := by decide +kernel
theorem dc_Pi_joinFromSpare_48 : decode mb_Pi_joinFromSpare 48 = .ok (.iload_n 3, 1) := by decide +kernel
theorem dc_Pi_joinFromSpare_49 : decode mb_Pi_joinFromSpare 49 = .ok (.isub, 1) := by decide +kernel
theorem dc_Pi_joinFromSpare_50 : decode mb_Pi_joinFromSpare 50 = .ok (.istore 11, 2) := by decide +kernel
theorem dc_Pi_joinFromSpare_52 : decode mb_Pi_joinFromSpare 52 = .ok (.aload_n 0, 1) := by decide +kernel
theorem dc_Pi_joinFromSpare_53 : decode mb_Pi_joinFromSpare 53 = .ok (.getfield 15, 3) := by decide +kernel
theorem dc_Pi_joinFromSpare_56 : decode mb_Pi_joinFromSpare 56 = .ok (.aload_n 1, 1) := by decide +kernel
theorem dc_Pi_joinFromSpare_57 : decode mb_Pi_joinFromSpare 57 = .ok (.iload 7, 2) := by decide +kernel
theorem dc_Pi_joinFromSpare_59 : decode mb_Pi_joinFromSpare 59 = .ok (.aload_n 0, 1) := by decide +kernel
theorem dc_Pi_joinFromSpare_60 : decode mb_Pi_joinFromSpare 60 = .ok (.getfield 11, 3) := by decide +kernel
theorem dc_Pi_joinFromSpare_63 : decode mb_Pi_joinFromSpare 63 = .ok (.iload 6, 2) := by decide +kernel
theorem dc_Pi_joinFromSpare_65 : decode mb_Pi_joinFromSpare 65 = .ok (.invokevirtual 102, 3) := by decide +kernel
theorem dc_Pi_joinFromSpare_68 : decode mb_Pi_joinFromSpare 68 = .ok (.ifCond .eq 81, 3) := by decide +kernel
theorem dc_Pi_joinFromSpare_71 : decode mb_Pi_joinFromSpare 71 = .ok (.iload 7, 2) := by decide +kernel
theorem dc_Pi_joinFromSpare_73 : decode mb_Pi_joinFromSpare 73 = .ok (.iconst 1, 1) := by decide +kernel
theorem dc_Pi_joinFromSpare_74 : decode mb_Pi_joinFromSpare 74 = .ok (.iadd, 1) := by decide +kernel
theorem dc_Pi_joinFromSpare_75 : decode mb_Pi_joinFromSpare 75 = .ok (.istore 12, 2) := by decide +kernel
theorem dc_Pi_joinFromSpare_77 : decode mb_Pi_joinFromSpare 77 = .ok (.iconst 0, 1) := by decide +kernel
theorem dc_Pi_joinFromSpare_78 : decode mb_Pi_joinFromSpare 78 = .ok (.istore 8, 2) := by decide +kernel
theorem dc_Pi_joinFromSpare_80 : decode mb_Pi_joinFromSpare 80 = .ok (.iinc 9 1, 3) := by decide +kernel
theorem dc_Pi_joinFromSpare_83 : decode mb_Pi_joinFromSpare 83 = .ok (.iload 9, 2) := by decide +kernel
theorem dc_Pi_joinFromSpare_85 : decode mb_Pi_joinFromSpare 85 = .ok (.bipush 7, 2) := by decide +kernel
theorem dc_Pi_joinFromSpare_87 : decode mb_Pi_joinFromSpare 87 = .ok (.if_icmp .lt 41, 3) := by decide +kernel
theorem dc_Pi_joinFromSpare_90 : decode mb_Pi_joinFromSpare 90 = .ok (.iconst 0, 1) := by decide +kernel
theorem dc_Pi_joinFromSpare_91 : decode mb_Pi_joinFromSpare 91 = .ok (.istore 9, 2) := by decide +kernel
theorem dc_Pi_joinFromSpare_93 : decode mb_Pi_joinFromSpare 93 = .ok (.aload_n 0, 1) := by decide +kernel
theorem dc_Pi_joinFromSpare_94 : decode mb_Pi_joinFromSpare 94 = .ok (.getfield 15, 3) := by decide +kernel
theorem dc_Pi_joinFromSpare_97 : decode mb_Pi_joinFromSpare 97 = .ok (.aload_n 1, 1) := by decide +kernel
theorem dc_Pi_joinFromSpare_98 : decode mb_Pi_joinFromSpare 98 = .ok (.iload 12, 2) := by decide +kernel
theorem dc_Pi_joinFromSpare_100 : decode mb_Pi_joinFromSpare 100 = .ok (.iload 4, 2) := by decide +kernel
theorem dc_Pi_joinFromSpare_102 : decode mb_Pi_joinFromSpare 102 = .ok (.aload_n 0, 1) := by decide +kernel
theorem dc_Pi_joinFromSpare_103 : decode mb_Pi_joinFromSpare 103 = .ok (.getfield 11, 3) := by decide +kernel
theorem dc_Pi_joinFromSpare_106 : decode mb_Pi_joinFromSpare 106 = .ok (.getfield 83, 3) := by decide +kernel
theorem dc_Pi_joinFromSpare_109 : decode mb_Pi_joinFromSpare 109 = .ok (.iload 6, 2) := by decide +kernel
theorem dc_Pi_joinFromSpare_111 : decode mb_Pi_joinFromSpare 111 = .ok (.laload, 1) := by decide +kernel
theorem dc_Pi_joinFromSpare_112 : decode mb_Pi_joinFromSpare 112 = .ok (.aload_n 0, 1) := by decide +kernel
theorem dc_Pi_joinFromSpare_113 : decode mb_Pi_joinFromSpare 113 = .ok (.getfield 11, 3) := by decide +kernel
theorem dc_Pi_joinFromSpare_116 : decode mb_Pi_joinFromSpare 116 = .ok (.getfield 87, 3) := by decide +kernel
theorem dc_Pi_joinFromSpare_119 : decode mb_Pi_joinFromSpare 119 = .ok (.iload 6, 2) := by decide +kernel
theorem dc_Pi_joinFromSpare_121 : decode mb_Pi_joinFromSpare 121 = .ok (.iaload, 1) := by decide +kernel
theorem dc_Pi_joinFromSpare_122 : decode mb_Pi_joinFromSpare 122 = .ok (.iconst 0, 1) := by decide +kernel
theorem dc_Pi_joinFromSpare_123 : decode mb_Pi_joinFromSpare 123 = .ok (.invokevirtual 90, 3) := by decide +kernel
theorem dc_Pi_joinFromSpare_126 : decode mb_Pi_joinFromSpare 126 = .ok (.istore 12, 2) := by decide +kernel
theorem dc_Pi_joinFromSpare_128 : decode mb_Pi_joinFromSpare 128 = .ok (.aload_n 1, 1) := by decide +kernel
theorem dc_Pi_joinFromSpare_129 : decode mb_Pi_joinFromSpare 129 = .ok (.iload 11, 2) := by decide +kernel
theorem dc_Pi_joinFromSpare_131 : decode mb_Pi_joinFromSpare 131 = .ok (.aload_n 1, 1) := by decide +kernel
theorem dc_Pi_joinFromSpare_132 : decode mb_Pi_joinFromSpare 132 = .ok (.iload 7, 2) := by decide +kernel
theorem dc_Pi_joinFromSpare_134 : decode mb_Pi_joinFromSpare 134 = .ok (.iload 12, 2) := by decide +kernel
theorem dc_Pi_joinFromSpare_136 : decode mb_Pi_joinFromSpare 136 = .ok (.iload 7, 2) := by decide +kernel
theorem dc_Pi_joinFromSpare_138 : decode mb_Pi_joinFromSpare 138 = .ok (.isub, 1) := by decide +kernel
theorem dc_Pi_joinFromSpare_139 : decode mb_Pi_joinFromSpare 139 = .ok (.invokevirtual 94, 3) := by decide +kernel
theorem dc_Pi_joinFromSpare_142 : decode mb_Pi_joinFromSpare 142 = .ok (.iload 12, 2) := by decide +kernel
theorem dc_Pi_joinFromSpare_144 : decode mb_Pi_joinFromSpare 144 = .ok (.istore 7, 2) := by decide +kernel
theorem dc_Pi_joinFromSpare_146 : decode mb_Pi_joinFromSpare 146 = .ok (.goto 78, 3) := by decide +kernel
theorem dc_Pi_joinFromSpare_149 : decode mb_Pi_joinFromSpare 149 = .ok (.iload 6, 2) := by decide +kernel
theorem dc_Pi_joinFromSpare_151 : decode mb_Pi_joinFromSpare 151 = .ok (.iconst 1, 1) := by decide +kernel
theorem dc_Pi_joinFromSpare_152 : decode mb_Pi_joinFromSpare 152 = .ok (.iadd, 1) := by decide +kernel
theorem dc_Pi_joinFromSpare_153 : decode mb_Pi_joinFromSpare 153 = .ok (.istore 12, 2) := by decide +kernel
theorem dc_Pi_joinFromSpare_155 : decode mb_Pi_joinFromSpare 155 = .ok (.iconst 0, 1) := by decide +kernel
theorem dc_Pi_joinFromSpare_156 : decode mb_Pi_joinFromSpare 156 = .ok (.istore 9, 2) := by decide +kernel
theorem dc_Pi_joinFromSpare_158 : decode mb_Pi_joinFromSpare 158 = .ok (.iinc 8 1, 3) := by decide +kernel
theorem dc_Pi_joinFromSpare_161 : decode mb_Pi_joinFromSpare 161 = .ok (.iload 8, 2) := by decide +kernel
theorem dc_Pi_joinFromSpare_163 : decode mb_Pi_joinFromSpare 163 = .ok (.bipush 7, 2) := by decide +kernel
theorem dc_Pi_joinFromSpare_165 : decode mb_Pi_joinFromSpare 165 = .ok (.if_icmp .lt 38, 3) := by decide +kernel
theorem dc_Pi_joinFromSpare_168 : decode mb_Pi_joinFromSpare 168 = .ok (.iconst 0, 1) := by decide +kernel
theorem dc_Pi_joinFromSpare_169 : decode mb_Pi_joinFromSpare 169 = .ok (.istore 8, 2) := by decide +kernel
theorem dc_Pi_joinFromSpare_171 : decode mb_Pi_joinFromSpare 171 = .ok (.aload_n 0, 1) := by decide +kernel
theorem dc_Pi_joinFromSpare_172 : decode mb_Pi_joinFromSpare 172 = .ok (.getfield 15, 3) := by decide +kernel
theorem dc_Pi_joinFromSpare_175 : decode mb_Pi_joinFromSpare 175 = .ok (.aload_n 0, 1) := by decide +kernel
theorem dc_Pi_joinFromSpare_176 : decode mb_Pi_joinFromSpare 176 = .ok (.getfield 11, 3) := by decide +kernel
theorem dc_Pi_joinFromSpare_179 : decode mb_Pi_joinFromSpare 179 = .ok (.iload 12, 2) := by decide +kernel
theorem dc_Pi_joinFromSpare_181 : decode mb_Pi_joinFromSpare 181 = .ok (.iload 5, 2) := by decide +kernel
theorem dc_Pi_joinFromSpare_183 : decode mb_Pi_joinFromSpare 183 = .ok (.aload_n 1, 1) := by decide +kernel
theorem dc_Pi_joinFromSpare_184 : decode mb_Pi_joinFromSpare 184 = .ok (.getfield 83, 3) := by decide +kernel
theorem dc_Pi_joinFromSpare_187 : decode mb_Pi_joinFromSpare 187 = .ok (.iload 7, 2) := by decide +kernel
theorem dc_Pi_joinFromSpare_189 : decode mb_Pi_joinFromSpare 189 = .ok (.laload, 1) := by decide +kernel
theorem dc_Pi_joinFromSpare_190 : decode mb_Pi_joinFromSpare 190 = .ok (.aload_n 1, 1) := by decide +kernel
theorem dc_Pi_joinFromSpare_191 : decode mb_Pi_joinFromSpare 191 = .ok (.getfield 87, 3) := by decide +kernel
theorem dc_Pi_joinFromSpare_194 : decode mb_Pi_joinFromSpare 194 = .ok (.iload 7, 2) := by decide +kernel
theorem dc_Pi_joinFromSpare_196 : decode mb_Pi_joinFromSpare 196 = .ok (.iaload, 1) := by decide +kernel
theorem dc_Pi_joinFromSpare_197 : decode mb_Pi_joinFromSpare 197 = .ok (.iconst 1, 1) := by decide +kernel
theorem dc_Pi_joinFromSpare_198 : decode mb_Pi_joinFromSpare 198 = .ok (.invokevirtual 90, 3) := by decide +kernel
theorem dc_Pi_joinFromSpare_201 : decode mb_Pi_joinFromSpare 201 = .ok (.istore 12, 2) := by decide +kernel
theorem dc_Pi_joinFromSpare_203 : decode mb_Pi_joinFromSpare 203 = .ok (.aload_n 1, 1) := by decide +kernel
theorem dc_Pi_joinFromSpare_204 : decode mb_Pi_joinFromSpare 204 = .ok (.iload 11, 2) := by decide +kernel
theorem dc_Pi_joinFromSpare_206 : decode mb_Pi_joinFromSpare 206 = .ok (.aload_n 0, 1) := by decide +kernel
theorem dc_Pi_joinFromSpare_207 : decode mb_Pi_joinFromSpare 207 = .ok (.getfield 11, 3) := by decide +kernel
theorem dc_Pi_joinFromSpare_210 : decode mb_Pi_joinFromSpare 210 = .ok (.iload 6, 2) := by decide +kernel
theorem dc_Pi_joinFromSpare_212 : decode mb_Pi_joinFromSpare 212 = .ok (.iload 12, 2) := by decide +kernel
theorem dc_Pi_joinFromSpare_214 : decode mb_Pi_joinFromSpare 214 = .ok (.iload 6, 2) := by decide +kernel
theorem dc_Pi_joinFromSpare_216 : decode mb_Pi_joinFromSpare 216 = .ok (.isub, 1) := by decide +kernel
theorem dc_Pi_joinFromSpare_217 : decode mb_Pi_joinFromSpare 217 = .ok (.invokevirtual 94, 3) := by decide +kernel
theorem dc_Pi_joinFromSpare_220 : decode mb_Pi_joinFromSpare 220 = .ok (.iload 12, 2) := by decide +kernel
theorem dc_Pi_joinFromSpare_222 : decode mb_Pi_joinFromSpare 222 = .ok (.istore 6, 2) := by decide +kernel
theorem dc_Pi_joinFromSpare_224 : decode mb_Pi_joinFromSpare 224 = .ok (.iinc 10 1, 3) := by decide +kernel
theorem dc_Pi_joinFromSpare_227 : decode mb_Pi_joinFromSpare 227 = .ok (.goto (-207), 3) := by decide +kernel
theorem dc_Pi_joinFromSpare_230 : decode mb_Pi_joinFromSpare 230 = .ok (.aload_n 1, 1) := by decide +kernel
theorem dc_Pi_joinFromSpare_231 : decode mb_Pi_joinFromSpare 231 = .ok (.iload_n 2, 1) := by decide +kernel
theorem dc_Pi_joinFromSpare_232 : decode mb_Pi_joinFromSpare 232 = .ok (.iload 6, 2) := by decide +kernel
theorem dc_Pi_joinFromSpare_234 : decode mb_Pi_joinFromSpare 234 = .ok (.iadd, 1) := by decide +kernel
theorem dc_Pi_joinFromSpare_235 : decode mb_Pi_joinFromSpare 235 = .ok (.iload 7, 2) := by decide +kernel
theorem dc_Pi_joinFromSpare_237 : decode mb_Pi_joinFromSpare 237 = .ok (.iadd, 1) := by decide +kernel
theorem dc_Pi_joinFromSpare_238 : decode mb_Pi_joinFromSpare 238 = .ok (.iload_n 3, 1) := by decide +kernel
theorem dc_Pi_joinFromSpare_239 : decode mb_Pi_joinFromSpare 239 = .ok (.isub, 1) := by decide +kernel
theorem dc_Pi_joinFromSpare_240 : decode mb_Pi_joinFromSpare 240 = .ok (.aload_n 0, 1) := by decide +kernel
theorem dc_Pi_joinFromSpare_241 : decode mb_Pi_joinFromSpare 241 = .ok (.getfield 11, 3) := by decide +kernel
theorem dc_Pi_joinFromSpare_244 : decode mb_Pi_joinFromSpare 244 = .ok (.iload 6, 2) := by decide +kernel
theorem dc_Pi_joinFromSpare_246 : decode mb_Pi_joinFromSpare 246 = .ok (.iload 5, 2) := by decide +kernel
theorem dc_Pi_joinFromSpare_248 : decode mb_Pi_joinFromSpare 248 = .ok (.iload 6, 2) := by decide +kernel
theorem dc_Pi_joinFromSpare_250 : decode mb_Pi_joinFromSpare 250 = .ok (.isub, 1) := by decide +kernel
theorem dc_Pi_joinFromSpare_251 : decode mb_Pi_joinFromSpare 251 = .ok (.invokevirtual 94, 3) := by decide +kernel
theorem dc_Pi_joinFromSpare_254 : decode mb_Pi_joinFromSpare 254 = .ok (.return_, 1) := by decide +kernel
theorem zJ_his {α : Type} {r : α → Int} {f : Nat → α} {a m b lo hi : Nat} {M : List α} (h : zJ r f a m b lo hi M) (hmh : m ≤ hi) (h1 : ∀ i j, a ≤ i → i < j → j < m → r (f i) ≤ r (f j)) (h2 : ∀ i j, m ≤ i → i < j → j < b → r (f i) ≤ r (f j)) (halo : a ≤ lo) : ∀ e, hi + e ≤ b → (lo < m → ∀ i, hi ≤ i → i < hi + e → r (f i) < r (f lo)) → zJ r f a m b lo (hi + e) (M ++ zs f hi e) := by
  intro e
  induction e with
  | zero => intro _ _; rw [zs_zero, List.append_nil]; exact h
  | succ e ih =>
    intro he hc
    have h3 := ih (by omega) (fun q i q1 q2 => hc q i q1 (by omega))
    rw [zs_succ, ← List.append_assoc]
    exact zJ_hi (hi := hi + e) h3 (by omega) (by omega) h1 h2 halo (fun q => hc q _ (by omega) (by omega))
theorem zJ_los {α : Type} {r : α → Int} {f : Nat → α} {a m b lo hi : Nat} {M : List α} (h : zJ r f a m b lo hi M) (hmh : m ≤ hi) (h1 : ∀ i j, a ≤ i → i < j → j < m → r (f i) ≤ r (f j)) (h2 : ∀ i j, m ≤ i → i < j → j < b → r (f i) ≤ r (f j)) (halo : a ≤ lo) : ∀ e, lo + e ≤ m → (hi < b → ∀ j, lo ≤ j → j < lo + e → r (f j) ≤ r (f hi)) → zJ r f a m b (lo + e) hi (M ++ zs f lo e) := by
  intro e
  induction e with
  | zero => intro _ _; rw [zs_zero, List.append_nil]; exact h
  | succ e ih =>
    intro he hc
    have h3 := ih (by omega) (fun q i q1 q2 => hc q i q1 (by omega))
    rw [zs_succ, ← List.append_assoc]
    exact zJ_lo (lo := lo + e) h3 hmh (by omega) (by omega) h1 h2 (fun q => by have := hc q (lo + e) (by omega) (by omega); omega)
theorem zcp_end {α : Type} (A g : Nat → α) {a pl sp e : Nat} (h : a ≤ pl) : zs (va_cpy A g sp pl e) a (pl + e - a) = zs g a (pl - a) ++ zs A sp e := by
  rw [show pl + e - a = (pl - a) + e by omega, zs_add, show a + (pl - a) = pl by omega]
  congr 1
  · exact zs_congr (fun j hj => pk_cpy_out (Or.inl (by omega)))
  · refine zs_congr (fun j hj => ?_)
    rw [pk_cpy_in (by omega) (by omega)]
    congr 1
    omega
theorem zcp_out {α : Type} (A g : Nat → α) {pl sp e j : Nat} (h : j < pl ∨ pl + e ≤ j) : va_cpy A g sp pl e j = g j := pk_cpy_out h
set_option maxHeartbeats 4000000 in
set_option maxRecDepth 100000 in
theorem ct_Pi_joinFromSpare (l : Launch) (g : YG) (S : YS) (od : Nat) (tg : Bool) (c : Nat) (hJ : yJ S od tg c) (r : Nat) (hr : r < 6) (hr5 : 5 ≠ r) (a m b : Nat) (ham : a ≤ m) (hmb : m ≤ b) (hb : b ≤ 1024) (F : Nat → Int64 × Int32) (hF : (ye S r) = F) (hA : ∀ j, j < m - a → ye S 5 j = F (a + j)) (o1 : ∀ i j, a ≤ i → i < j → j < m → zq od tg (F i) ≤ zq od tg (F j)) (o2 : ∀ i j, m ≤ i → i < j → j < b → zq od tg (F i) ≤ zq od tg (F j)) : yC l mn_Pi_joinFromSpare mb_Pi_joinFromSpare 13 none 4 g [.ref (g.ad (21)), .ref (g.ad (2 + r)), .int (nI (a)), .int (nI (m)), .int (nI (b))] S (fun v S' => ∃ g' c', v = none ∧ S' = yq (yz S r g') c' ∧ (∀ j, j < a ∨ b ≤ j → g' j = F j) ∧ zo (zq od tg) (zs g' a (b - a)) ∧ ze (zq od tg) (zs g' a (b - a)) (zs F a (b - a)) ∧ c' ≤ c + 2 * (b - a)) := by
  refine yC_of (by decide) (Nat.le_of_ble_eq_true rfl) ?_
  intro o hl hg hB0 hE
  subst hl
  subst hg
  have hB : yB o mb_Pi_joinFromSpare "OrderBench$Pile" := hB0
  have hm := hE.1
  show yW o (S) 0 [(0, .ref (o.G.ad (21))), (1, .ref (o.G.ad (2 + r))), (2, .int (nI (a))), (3, .int (nI (m))), (4, .int (nI (b)))] []
  refine y_iload_n (pc' := 1) hB dc_Pi_joinFromSpare_0 rfl rfl 3 rfl ?_
  refine y_iload_n (pc' := 2) hB dc_Pi_joinFromSpare_1 rfl rfl 2 rfl ?_
  refine n_isub (x := m) (y := a) (pc' := 3) hB dc_Pi_joinFromSpare_2 rfl (by omega) ?_
  refine y_istore (pc' := 5) (lv' := [(5, .int (nI (m - a))), (0, .ref (o.G.ad (21))), (1, .ref (o.G.ad (2 + r))), (2, .int (nI (a))), (3, .int (nI (m))), (4, .int (nI (b)))]) hB hm dc_Pi_joinFromSpare_3 rfl (by decide) rfl ?_
  refine y_iconst (v := nI 0) (pc' := 6) hB dc_Pi_joinFromSpare_5 rfl rfl ?_
  refine y_istore (pc' := 8) (lv' := [(6, .int (nI (0))), (5, .int (nI (m - a))), (0, .ref (o.G.ad (21))), (1, .ref (o.G.ad (2 + r))), (2, .int (nI (a))), (3, .int (nI (m))), (4, .int (nI (b)))]) hB hm dc_Pi_joinFromSpare_6 rfl (by decide) rfl ?_
  refine y_iload_n (pc' := 9) hB dc_Pi_joinFromSpare_8 rfl rfl 5 rfl ?_
  refine y_istore (pc' := 11) (lv' := [(7, .int (nI (m))), (6, .int (nI (0))), (5, .int (nI (m - a))), (0, .ref (o.G.ad (21))), (1, .ref (o.G.ad (2 + r))), (2, .int (nI (a))), (3, .int (nI (m))), (4, .int (nI (b)))]) hB hm dc_Pi_joinFromSpare_9 rfl (by decide) rfl ?_
  refine y_iconst (v := nI 0) (pc' := 12) hB dc_Pi_joinFromSpare_11 rfl rfl ?_
  refine y_istore (pc' := 14) (lv' := [(8, .int (nI (0))), (7, .int (nI (m))), (6, .int (nI (0))), (5, .int (nI (m - a))), (0, .ref (o.G.ad (21))), (1, .ref (o.G.ad (2 + r))), (2, .int (nI (a))), (3, .int (nI (m))), (4, .int (nI (b)))]) hB hm dc_Pi_joinFromSpare_12 rfl (by decide) rfl ?_
  refine y_iconst (v := nI 0) (pc' := 15) hB dc_Pi_joinFromSpare_14 rfl rfl ?_
  refine y_istore (pc' := 17) (lv' := [(9, .int (nI (0))), (8, .int (nI (0))), (7, .int (nI (m))), (6, .int (nI (0))), (5, .int (nI (m - a))), (0, .ref (o.G.ad (21))), (1, .ref (o.G.ad (2 + r))), (2, .int (nI (a))), (3, .int (nI (m))), (4, .int (nI (b)))]) hB hm dc_Pi_joinFromSpare_15 rfl (by decide) rfl ?_
  refine y_iload_n (pc' := 18) hB dc_Pi_joinFromSpare_17 rfl rfl 7 rfl ?_
  refine y_istore (pc' := 20) (lv' := [(10, .int (nI (a))), (9, .int (nI (0))), (8, .int (nI (0))), (7, .int (nI (m))), (6, .int (nI (0))), (5, .int (nI (m - a))), (0, .ref (o.G.ad (21))), (1, .ref (o.G.ad (2 + r))), (2, .int (nI (a))), (3, .int (nI (m))), (4, .int (nI (b)))]) hB hm dc_Pi_joinFromSpare_18 rfl (by decide) rfl ?_
  have loop : ∀ (d : Nat) (tn hw lw hi lo c1 : Nat) (g1 : Nat → Int64 × Int32), b - tn < d → lo ≤ m - a → m ≤ hi ∧ hi ≤ b → tn ≤ a + lo + (hi - m) ∧ a ≤ tn → hw < 7 ∧ lw < 7 → (∀ j, j < a ∨ hi ≤ j → g1 j = F j) → zJ (zq od tg) F a m b (a + lo) hi (zs g1 a (lo + (hi - m))) → c1 ≤ c + 2 * (lo + (hi - m)) → yW o (yq (yz S r g1) c1) 20 [(10, .int (nI (tn))), (9, .int (nI (hw))), (8, .int (nI (lw))), (7, .int (nI (hi))), (6, .int (nI (lo))), (5, .int (nI (m - a))), (0, .ref (o.G.ad (21))), (1, .ref (o.G.ad (2 + r))), (2, .int (nI (a))), (3, .int (nI (m))), (4, .int (nI (b)))] [] := by
    intro d
    induction d with
    | zero => intro tn hw lw hi lo c1 g1 hd; omega
    | succ d ih =>
      intro tn hw lw hi lo c1 g1 hd h1 h2 h3 h4 h5 h6 h7
      have hr1 : ye (yz S r g1) r = g1 := ye_yz S r g1
      have h51 : ∀ c2 j, j < m - a → ye (yq (yz S r g1) c2) 5 j = F (a + j) := fun c2 j hj => (congrFun (ye_yz_ne S g1 hr5) j).trans (hA j hj)
      have fin : lo = m - a ∨ hi = b → yW o (yq (yz S r g1) c1) 230 [(10, .int (nI (tn))), (9, .int (nI (hw))), (8, .int (nI (lw))), (7, .int (nI (hi))), (6, .int (nI (lo))), (5, .int (nI (m - a))), (0, .ref (o.G.ad (21))), (1, .ref (o.G.ad (2 + r))), (2, .int (nI (a))), (3, .int (nI (m))), (4, .int (nI (b)))] [] := by
        intro hq
        refine y_aload_n (pc' := 231) hB dc_Pi_joinFromSpare_230 rfl rfl 7 rfl ?_
        refine y_iload_n (pc' := 232) hB dc_Pi_joinFromSpare_231 rfl rfl 8 rfl ?_
        refine y_iload (pc' := 234) hB dc_Pi_joinFromSpare_232 rfl 4 rfl ?_
        refine n_iadd (x := a) (y := lo) (pc' := 235) hB dc_Pi_joinFromSpare_234 rfl ?_
        refine y_iload (pc' := 237) hB dc_Pi_joinFromSpare_235 rfl 3 rfl ?_
        refine n_iadd (x := a + lo) (y := hi) (pc' := 238) hB dc_Pi_joinFromSpare_237 rfl ?_
        refine y_iload_n (pc' := 239) hB dc_Pi_joinFromSpare_238 rfl rfl 9 rfl ?_
        refine n_isub (x := (a + lo) + hi) (y := m) (pc' := 240) hB dc_Pi_joinFromSpare_239 rfl (by omega) ?_
        refine y_aload_n (pc' := 241) hB dc_Pi_joinFromSpare_240 rfl rfl 6 rfl ?_
        refine f_P_spare (pc' := 244) hB dc_Pi_joinFromSpare_241 rfl q_89 ?_
        refine y_iload (pc' := 246) hB dc_Pi_joinFromSpare_244 rfl 4 rfl ?_
        refine y_iload (pc' := 248) hB dc_Pi_joinFromSpare_246 rfl 5 rfl ?_
        refine y_iload (pc' := 250) hB dc_Pi_joinFromSpare_248 rfl 4 rfl ?_
        refine n_isub (x := m - a) (y := lo) (pc' := 251) hB dc_Pi_joinFromSpare_250 rfl (by omega) ?_
        refine y_callV (c := 2 + r) (ci := 1) (As := [.int (nI (((a + lo) + hi) - m)), .ref (o.G.ad (2 + 5)), .int (nI (lo)), .int (nI ((m - a) - lo))]) (rest := []) (pc' := 254) hB hE (ct_R_takeMany o.l o.G (yq (yz S r g1) c1) r hr 5 (by decide) (a + lo + hi - m) lo (m - a - lo) (by omega) (by omega)) mm_R_takeMany q_505 q_315 q_316 (by unfold yN; omega) (yk_row (by omega)).1 rfl dc_Pi_joinFromSpare_251 rfl (by decide) rfl rfl (Nat.le_of_ble_eq_true rfl) (fun v S' hpost => ?_)
        obtain ⟨rfl, hSS⟩ := hpost
        rw [hSS]
        clear hSS S'
        show yW o (yz (yq (yz S r g1) c1) r (va_cpy (ye (yq (yz S r g1) c1) 5) (ye (yq (yz S r g1) c1) r) lo (a + lo + hi - m) (m - a - lo))) 254 [(10, .int (nI (tn))), (9, .int (nI (hw))), (8, .int (nI (lw))), (7, .int (nI (hi))), (6, .int (nI (lo))), (5, .int (nI (m - a))), (0, .ref (o.G.ad (21))), (1, .ref (o.G.ad (2 + r))), (2, .int (nI (a))), (3, .int (nI (m))), (4, .int (nI (b)))] []
        obtain ⟨A, hA5⟩ : ∃ z, z = ye (yq (yz S r g1) c1) 5 := ⟨_, rfl⟩
        have hS : yz (yq (yz S r g1) c1) r (va_cpy (ye (yq (yz S r g1) c1) 5) (ye (yq (yz S r g1) c1) r) lo (a + lo + hi - m) (m - a - lo)) = yq (yz S r (va_cpy A g1 lo (a + lo + hi - m) (m - a - lo))) c1 := by
          rw [← hA5, ye_yq, hr1]
          show yq (yz (yz S r _) r _) _ = _
          rw [yz_yz]
        rw [hS]
        have z1 := zJ_los h6 h2.1 o1 o2 (by omega) (m - a - lo) (by omega) (fun q j q1 q2 => by omega)
        rw [show a + lo + (m - a - lo) = m by omega] at z1
        have z2 := zJ_his z1 h2.1 o1 o2 ham (b - hi) (by omega) (fun q => by omega)
        rw [show hi + (b - hi) = b by omega] at z2
        have ez : zs (va_cpy A g1 lo (a + lo + hi - m) (m - a - lo)) a (b - a) = zs g1 a (lo + (hi - m)) ++ zs F (a + lo) (m - a - lo) ++ zs F hi (b - hi) := by
          rw [zs_split _ a (show a + lo + hi - m + (m - a - lo) - a ≤ b - a by omega), zcp_end A g1 (show a ≤ a + lo + hi - m by omega), show a + lo + hi - m - a = lo + (hi - m) by omega]
          congr 1
          · congr 1
            refine zs_congr (fun j hj => ?_)
            rw [hA5, h51 c1 _ (by omega), ← Nat.add_assoc]
          · rw [show a + (a + lo + hi - m + (m - a - lo) - a) = hi by omega, show b - a - (a + lo + hi - m + (m - a - lo) - a) = b - hi by omega]
            refine zs_congr (fun j hj => ?_)
            rw [zcp_out A g1 (Or.inr (by omega))]
            exact h5 _ (by omega)
        refine y_vret hB hE dc_Pi_joinFromSpare_254 ⟨_, c1, rfl, rfl, fun j hj => ?_, ?_, ?_, by omega⟩
        · rw [zcp_out A g1 (by omega)]; exact h5 j (by omega)
        · rw [ez]; exact z2.1
        · rw [ez]
          have z3 := z2.2.1
          rw [show zs F a (b - a) = zs F a (m - a) ++ zs F m (b - m) by rw [zs_split _ a (show m - a ≤ b - a by omega), show a + (m - a) = m by omega, show b - a - (m - a) = b - m by omega]]
          exact z3
      have hiway : ∀ p hw2 c2, tn < b → lo < m - a → hi < p → p ≤ b → hw2 < 7 → (∀ j, hi ≤ j → j < p → zq od tg (F j) < zq od tg (F (a + lo))) → c2 ≤ c1 + 2 * (p - hi) → yW o (yq (yz S r g1) c2) 128 [(12, .int (nI (p))), (11, .int (nI (a + lo + hi - m))), (10, .int (nI (tn))), (9, .int (nI (hw2))), (8, .int (nI (0))), (7, .int (nI (hi))), (6, .int (nI (lo))), (5, .int (nI (m - a))), (0, .ref (o.G.ad (21))), (1, .ref (o.G.ad (2 + r))), (2, .int (nI (a))), (3, .int (nI (m))), (4, .int (nI (b)))] [] := by
        intro p hw2 c2 q0 q1 q2 q3 q4 q5 q6
        refine y_aload_n (pc' := 129) hB dc_Pi_joinFromSpare_128 rfl rfl 9 rfl ?_
        refine y_iload (pc' := 131) hB dc_Pi_joinFromSpare_129 rfl 1 rfl ?_
        refine y_aload_n (pc' := 132) hB dc_Pi_joinFromSpare_131 rfl rfl 9 rfl ?_
        refine y_iload (pc' := 134) hB dc_Pi_joinFromSpare_132 rfl 5 rfl ?_
        refine y_iload (pc' := 136) hB dc_Pi_joinFromSpare_134 rfl 0 rfl ?_
        refine y_iload (pc' := 138) hB dc_Pi_joinFromSpare_136 rfl 5 rfl ?_
        refine n_isub (x := p) (y := hi) (pc' := 139) hB dc_Pi_joinFromSpare_138 rfl (by omega) ?_
        refine y_callV (c := 2 + r) (ci := 1) (As := [.int (nI (a + lo + hi - m)), .ref (o.G.ad (2 + r)), .int (nI (hi)), .int (nI (p - hi))]) (rest := []) (pc' := 142) hB hE (ct_R_takeMany o.l o.G (yq (yz S r g1) c2) r hr r hr (a + lo + hi - m) hi (p - hi) (by omega) (by omega)) mm_R_takeMany q_505 q_315 q_316 (by unfold yN; omega) (yk_row (by omega)).1 rfl dc_Pi_joinFromSpare_139 rfl (by decide) rfl rfl (Nat.le_of_ble_eq_true rfl) (fun v S' hpost => ?_)
        obtain ⟨rfl, hSS⟩ := hpost
        rw [hSS]
        clear hSS S'
        show yW o (yz (yq (yz S r g1) c2) r (va_cpy (ye (yq (yz S r g1) c2) r) (ye (yq (yz S r g1) c2) r) hi (a + lo + hi - m) (p - hi))) 142 [(12, .int (nI (p))), (11, .int (nI (a + lo + hi - m))), (10, .int (nI (tn))), (9, .int (nI (hw2))), (8, .int (nI (0))), (7, .int (nI (hi))), (6, .int (nI (lo))), (5, .int (nI (m - a))), (0, .ref (o.G.ad (21))), (1, .ref (o.G.ad (2 + r))), (2, .int (nI (a))), (3, .int (nI (m))), (4, .int (nI (b)))] []
        have hS : yz (yq (yz S r g1) c2) r (va_cpy (ye (yq (yz S r g1) c2) r) (ye (yq (yz S r g1) c2) r) hi (a + lo + hi - m) (p - hi)) = yq (yz S r (va_cpy g1 g1 hi (a + lo + hi - m) (p - hi))) c2 := by
          rw [ye_yq, hr1]
          show yq (yz (yz S r _) r _) _ = _
          rw [yz_yz]
        rw [hS]
        refine y_iload (pc' := 144) hB dc_Pi_joinFromSpare_142 rfl 0 rfl ?_
        refine y_istore (pc' := 146) (lv' := [(7, .int (nI (p))), (12, .int (nI (p))), (11, .int (nI (a + lo + hi - m))), (10, .int (nI (tn))), (9, .int (nI (hw2))), (8, .int (nI (0))), (6, .int (nI (lo))), (5, .int (nI (m - a))), (0, .ref (o.G.ad (21))), (1, .ref (o.G.ad (2 + r))), (2, .int (nI (a))), (3, .int (nI (m))), (4, .int (nI (b)))]) hB hm dc_Pi_joinFromSpare_144 rfl (by decide) rfl ?_
        refine y_goto (tg := 224) hB dc_Pi_joinFromSpare_146 rfl ?_
        refine n_inc (q := 3) (z := 1) (pc' := 227) (lv' := [(10, .int (nI (tn + 1))), (7, .int (nI (p))), (12, .int (nI (p))), (11, .int (nI (a + lo + hi - m))), (9, .int (nI (hw2))), (8, .int (nI (0))), (6, .int (nI (lo))), (5, .int (nI (m - a))), (0, .ref (o.G.ad (21))), (1, .ref (o.G.ad (2 + r))), (2, .int (nI (a))), (3, .int (nI (m))), (4, .int (nI (b)))]) hB hm dc_Pi_joinFromSpare_224 rfl rfl (by decide) rfl ?_
        refine y_goto (tg := 20) hB dc_Pi_joinFromSpare_227 rfl ?_
        refine y_sub [0, 4, 5, 1, 6, 7, 8, 9, 10, 11, 12] rfl ?_
        refine ih (tn + 1) hw2 0 p lo c2 _ (by omega) h1 (by omega) (by omega) (by omega) (fun j hj => ?_) ?_ (by omega)
        · rw [zcp_out g1 g1 (by omega)]; exact h5 j (by omega)
        · have z1 := zJ_his h6 h2.1 o1 o2 (by omega) (p - hi) (by omega) (fun _ j e1 e2 => q5 j e1 (by omega))
          rw [show hi + (p - hi) = p by omega] at z1
          have e3 : zs (va_cpy g1 g1 hi (a + lo + hi - m) (p - hi)) a (lo + (p - m)) = zs g1 a (lo + (hi - m)) ++ zs F hi (p - hi) := by
            rw [show lo + (p - m) = a + lo + hi - m + (p - hi) - a by omega, zcp_end g1 g1 (show a ≤ a + lo + hi - m by omega), show a + lo + hi - m - a = lo + (hi - m) by omega]
            congr 1
            exact zs_congr (fun j hj => h5 _ (by omega))
          rw [e3]; exact z1
      have loway : ∀ p lw2 c2, tn < b → hi < b → lo < p → p ≤ m - a → lw2 < 7 → (∀ j, lo ≤ j → j < p → zq od tg (F (a + j)) ≤ zq od tg (F hi)) → c2 ≤ c1 + 2 * (p - lo) → yW o (yq (yz S r g1) c2) 203 [(12, .int (nI (p))), (11, .int (nI (a + lo + hi - m))), (10, .int (nI (tn))), (9, .int (nI (0))), (8, .int (nI (lw2))), (7, .int (nI (hi))), (6, .int (nI (lo))), (5, .int (nI (m - a))), (0, .ref (o.G.ad (21))), (1, .ref (o.G.ad (2 + r))), (2, .int (nI (a))), (3, .int (nI (m))), (4, .int (nI (b)))] [] := by
        intro p lw2 c2 q0 q1 q2 q3 q4 q5 q6
        refine y_aload_n (pc' := 204) hB dc_Pi_joinFromSpare_203 rfl rfl 9 rfl ?_
        refine y_iload (pc' := 206) hB dc_Pi_joinFromSpare_204 rfl 1 rfl ?_
        refine y_aload_n (pc' := 207) hB dc_Pi_joinFromSpare_206 rfl rfl 8 rfl ?_
        refine f_P_spare (pc' := 210) hB dc_Pi_joinFromSpare_207 rfl q_89 ?_
        refine y_iload (pc' := 212) hB dc_Pi_joinFromSpare_210 rfl 6 rfl ?_
        refine y_iload (pc' := 214) hB dc_Pi_joinFromSpare_212 rfl 0 rfl ?_
        refine y_iload (pc' := 216) hB dc_Pi_joinFromSpare_214 rfl 6 rfl ?_
        refine n_isub (x := p) (y := lo) (pc' := 217) hB dc_Pi_joinFromSpare_216 rfl (by omega) ?_
        refine y_callV (c := 2 + r) (ci := 1) (As := [.int (nI (a + lo + hi - m)), .ref (o.G.ad (2 + 5)), .int (nI (lo)), .int (nI (p - lo))]) (rest := []) (pc' := 220) hB hE (ct_R_takeMany o.l o.G (yq (yz S r g1) c2) r hr 5 (by decide) (a + lo + hi - m) lo (p - lo) (by omega) (by omega)) mm_R_takeMany q_505 q_315 q_316 (by unfold yN; omega) (yk_row (by omega)).1 rfl dc_Pi_joinFromSpare_217 rfl (by decide) rfl rfl (Nat.le_of_ble_eq_true rfl) (fun v S' hpost => ?_)
        obtain ⟨rfl, hSS⟩ := hpost
        rw [hSS]
        clear hSS S'
        show yW o (yz (yq (yz S r g1) c2) r (va_cpy (ye (yq (yz S r g1) c2) 5) (ye (yq (yz S r g1) c2) r) lo (a + lo + hi - m) (p - lo))) 220 [(12, .int (nI (p))), (11, .int (nI (a + lo + hi - m))), (10, .int (nI (tn))), (9, .int (nI (0))), (8, .int (nI (lw2))), (7, .int (nI (hi))), (6, .int (nI (lo))), (5, .int (nI (m - a))), (0, .ref (o.G.ad (21))), (1, .ref (o.G.ad (2 + r))), (2, .int (nI (a))), (3, .int (nI (m))), (4, .int (nI (b)))] []
        obtain ⟨A, hA5⟩ : ∃ z, z = ye (yq (yz S r g1) c2) 5 := ⟨_, rfl⟩
        have hS : yz (yq (yz S r g1) c2) r (va_cpy (ye (yq (yz S r g1) c2) 5) (ye (yq (yz S r g1) c2) r) lo (a + lo + hi - m) (p - lo)) = yq (yz S r (va_cpy A g1 lo (a + lo + hi - m) (p - lo))) c2 := by
          rw [← hA5, ye_yq, hr1]
          show yq (yz (yz S r _) r _) _ = _
          rw [yz_yz]
        rw [hS]
        refine y_iload (pc' := 222) hB dc_Pi_joinFromSpare_220 rfl 0 rfl ?_
        refine y_istore (pc' := 224) (lv' := [(6, .int (nI (p))), (12, .int (nI (p))), (11, .int (nI (a + lo + hi - m))), (10, .int (nI (tn))), (9, .int (nI (0))), (8, .int (nI (lw2))), (7, .int (nI (hi))), (5, .int (nI (m - a))), (0, .ref (o.G.ad (21))), (1, .ref (o.G.ad (2 + r))), (2, .int (nI (a))), (3, .int (nI (m))), (4, .int (nI (b)))]) hB hm dc_Pi_joinFromSpare_222 rfl (by decide) rfl ?_
        refine n_inc (q := 3) (z := 1) (pc' := 227) (lv' := [(10, .int (nI (tn + 1))), (6, .int (nI (p))), (12, .int (nI (p))), (11, .int (nI (a + lo + hi - m))), (9, .int (nI (0))), (8, .int (nI (lw2))), (7, .int (nI (hi))), (5, .int (nI (m - a))), (0, .ref (o.G.ad (21))), (1, .ref (o.G.ad (2 + r))), (2, .int (nI (a))), (3, .int (nI (m))), (4, .int (nI (b)))]) hB hm dc_Pi_joinFromSpare_224 rfl rfl (by decide) rfl ?_
        refine y_goto (tg := 20) hB dc_Pi_joinFromSpare_227 rfl ?_
        refine y_sub [0, 4, 5, 6, 1, 7, 8, 9, 10, 11, 12] rfl ?_
        refine ih (tn + 1) 0 lw2 hi p c2 _ (by omega) q3 h2 (by omega) (by omega) (fun j hj => ?_) ?_ (by omega)
        · rw [zcp_out A g1 (by omega)]; exact h5 j (by omega)
        · have z1 := zJ_los h6 h2.1 o1 o2 (by omega) (p - lo) (by omega) (fun _ j e1 e2 => by have e4 := q5 (j - a) (by omega) (by omega); rwa [show a + (j - a) = j by omega] at e4)
          rw [show a + lo + (p - lo) = a + p by omega] at z1
          have e3 : zs (va_cpy A g1 lo (a + lo + hi - m) (p - lo)) a (p + (hi - m)) = zs g1 a (lo + (hi - m)) ++ zs F (a + lo) (p - lo) := by
            rw [show p + (hi - m) = a + lo + hi - m + (p - lo) - a by omega, zcp_end A g1 (show a ≤ a + lo + hi - m by omega), show a + lo + hi - m - a = lo + (hi - m) by omega]
            congr 1
            refine zs_congr (fun j hj => ?_)
            rw [hA5, h51 c2 _ (by omega), ← Nat.add_assoc]
          rw [e3]; exact z1
      refine y_iload (pc' := 22) hB dc_Pi_joinFromSpare_20 rfl 0 rfl ?_
      refine y_iload (pc' := 24) hB dc_Pi_joinFromSpare_22 rfl 10 rfl ?_
      refine n_icmp_ge (pc' := 27) (tg := 230) hB dc_Pi_joinFromSpare_24 rfl rfl (by omega) (by omega) (fun b1 => ?_) (fun b1 => ?_)
      · exact fin (by omega)
      · refine y_iload (pc' := 29) hB dc_Pi_joinFromSpare_27 rfl 4 rfl ?_
        refine y_iload (pc' := 31) hB dc_Pi_joinFromSpare_29 rfl 5 rfl ?_
        refine n_icmp_ge (pc' := 34) (tg := 230) hB dc_Pi_joinFromSpare_31 rfl rfl (by omega) (by omega) (fun b2 => ?_) (fun b2 => ?_)
        · exact fin (by omega)
        · refine y_iload (pc' := 36) hB dc_Pi_joinFromSpare_34 rfl 3 rfl ?_
          refine y_iload (pc' := 38) hB dc_Pi_joinFromSpare_36 rfl 10 rfl ?_
          refine n_icmp_ge (pc' := 41) (tg := 230) hB dc_Pi_joinFromSpare_38 rfl rfl (by omega) (by omega) (fun b3 => ?_) (fun b3 => ?_)
          · exact fin (by omega)
          · refine y_iload_n (pc' := 42) hB dc_Pi_joinFromSpare_41 rfl rfl 8 rfl ?_
            refine y_iload (pc' := 44) hB dc_Pi_joinFromSpare_42 rfl 4 rfl ?_
            refine n_iadd (x := a) (y := lo) (pc' := 45) hB dc_Pi_joinFromSpare_44 rfl ?_
            refine y_iload (pc' := 47) hB dc_Pi_joinFromSpare_45 rfl 3 rfl ?_
            refine n_iadd (x := a + lo) (y := hi) (pc' := 48) hB dc_Pi_joinFromSpare_47 rfl ?_
            refine y_iload_n (pc' := 49) hB dc_Pi_joinFromSpare_48 rfl rfl 9 rfl ?_
            refine n_isub (x := (a + lo) + hi) (y := m) (pc' := 50) hB dc_Pi_joinFromSpare_49 rfl (by omega) ?_
            refine y_istore (pc' := 52) (lv' := [(11, .int (nI (((a + lo) + hi) - m))), (10, .int (nI (tn))), (9, .int (nI (hw))), (8, .int (nI (lw))), (7, .int (nI (hi))), (6, .int (nI (lo))), (5, .int (nI (m - a))), (0, .ref (o.G.ad (21))), (1, .ref (o.G.ad (2 + r))), (2, .int (nI (a))), (3, .int (nI (m))), (4, .int (nI (b)))]) hB hm dc_Pi_joinFromSpare_50 rfl (by decide) rfl ?_
            refine y_aload_n (pc' := 53) hB dc_Pi_joinFromSpare_52 rfl rfl 7 rfl ?_
            refine f_P_judge (pc' := 56) hB dc_Pi_joinFromSpare_53 rfl q_90 ?_
            refine y_aload_n (pc' := 57) hB dc_Pi_joinFromSpare_56 rfl rfl 8 rfl ?_
            refine y_iload (pc' := 59) hB dc_Pi_joinFromSpare_57 rfl 4 rfl ?_
            refine y_aload_n (pc' := 60) hB dc_Pi_joinFromSpare_59 rfl rfl 7 rfl ?_
            refine f_P_spare (pc' := 63) hB dc_Pi_joinFromSpare_60 rfl q_89 ?_
            refine y_iload (pc' := 65) hB dc_Pi_joinFromSpare_63 rfl 5 rfl ?_
            refine y_callV (c := 20) (ci := 2) (As := [.ref (o.G.ad (2 + r)), .int (nI (hi)), .ref (o.G.ad (2 + 5)), .int (nI (lo))]) (rest := []) (pc' := 68) hB hE (ct_J_before o.l o.G (yq (yz S r g1) c1) od tg c1 (yJ_yq (yJ_yz hJ r g1) c1) r hr 5 (by decide) hi lo (by omega) (by omega)) mm_J_before q_510 q_405 q_406 (by decide) rfl rfl dc_Pi_joinFromSpare_65 rfl (by decide) rfl rfl (Nat.le_of_ble_eq_true rfl) (fun v S' hpost => ?_)
            obtain ⟨rfl, hSS⟩ := hpost
            rw [hSS]
            clear hSS S'
            show yW o (yq (yq (yz S r g1) c1) (c1 + 1)) 68 [(11, .int (nI (((a + lo) + hi) - m))), (10, .int (nI (tn))), (9, .int (nI (hw))), (8, .int (nI (lw))), (7, .int (nI (hi))), (6, .int (nI (lo))), (5, .int (nI (m - a))), (0, .ref (o.G.ad (21))), (1, .ref (o.G.ad (2 + r))), (2, .int (nI (a))), (3, .int (nI (m))), (4, .int (nI (b)))] [.int (yb (decide (zq od tg (ye (yq (yz S r g1) c1) r hi) < zq od tg (ye (yq (yz S r g1) c1) 5 lo))))]
            rw [yq_yq, h51 c1 lo b2, ye_yq, hr1, h5 hi (Or.inr (Nat.le_refl _))]
            refine y_if_eq (x := yb (decide (zq od tg (F hi) < zq od tg (F (a + lo))))) (pc' := 71) (tg := 149) hB dc_Pi_joinFromSpare_68 rfl rfl (fun b4 => ?_) (fun b4 => ?_)
            · rw [yb_0, decide_eq_false_iff_not] at b4
              refine y_iload (pc' := 151) hB dc_Pi_joinFromSpare_149 rfl 5 rfl ?_
              refine y_iconst (v := nI 1) (pc' := 152) hB dc_Pi_joinFromSpare_151 rfl rfl ?_
              refine n_iadd (x := lo) (y := 1) (pc' := 153) hB dc_Pi_joinFromSpare_152 rfl ?_
              refine y_istore (pc' := 155) (lv' := [(12, .int (nI (lo + 1))), (11, .int (nI (((a + lo) + hi) - m))), (10, .int (nI (tn))), (9, .int (nI (hw))), (8, .int (nI (lw))), (7, .int (nI (hi))), (6, .int (nI (lo))), (5, .int (nI (m - a))), (0, .ref (o.G.ad (21))), (1, .ref (o.G.ad (2 + r))), (2, .int (nI (a))), (3, .int (nI (m))), (4, .int (nI (b)))]) hB hm dc_Pi_joinFromSpare_153 rfl (by decide) rfl ?_
              refine y_iconst (v := nI 0) (pc' := 156) hB dc_Pi_joinFromSpare_155 rfl rfl ?_
              refine y_istore (pc' := 158) (lv' := [(9, .int (nI (0))), (12, .int (nI (lo + 1))), (11, .int (nI (((a + lo) + hi) - m))), (10, .int (nI (tn))), (8, .int (nI (lw))), (7, .int (nI (hi))), (6, .int (nI (lo))), (5, .int (nI (m - a))), (0, .ref (o.G.ad (21))), (1, .ref (o.G.ad (2 + r))), (2, .int (nI (a))), (3, .int (nI (m))), (4, .int (nI (b)))]) hB hm dc_Pi_joinFromSpare_156 rfl (by decide) rfl ?_
              refine n_inc (q := 4) (z := 1) (pc' := 161) (lv' := [(8, .int (nI (lw + 1))), (9, .int (nI (0))), (12, .int (nI (lo + 1))), (11, .int (nI (((a + lo) + hi) - m))), (10, .int (nI (tn))), (7, .int (nI (hi))), (6, .int (nI (lo))), (5, .int (nI (m - a))), (0, .ref (o.G.ad (21))), (1, .ref (o.G.ad (2 + r))), (2, .int (nI (a))), (3, .int (nI (m))), (4, .int (nI (b)))]) hB hm dc_Pi_joinFromSpare_158 rfl rfl (by decide) rfl ?_
              refine y_iload (pc' := 163) hB dc_Pi_joinFromSpare_161 rfl 0 rfl ?_
              refine y_bipush (v := nI 7) (pc' := 165) hB dc_Pi_joinFromSpare_163 rfl (by decide) ?_
              refine n_icmp_lt (pc' := 168) (tg := 203) hB dc_Pi_joinFromSpare_165 rfl rfl (by omega) (by omega) (fun b5 => ?_) (fun b5 => ?_)
              · refine y_sub [2, 3, 4, 1, 0, 5, 6, 7, 8, 9, 10, 11, 12] rfl ?_
                refine loway (lo + 1) (lw + 1) (c1 + 1) b1 b3 (by omega) (by omega) b5 (fun j e1 e2 => ?_) (by omega)
                rw [show j = lo by omega]
                omega
              · refine y_iconst (v := nI 0) (pc' := 169) hB dc_Pi_joinFromSpare_168 rfl rfl ?_
                refine y_istore (pc' := 171) (lv' := [(8, .int (nI (0))), (9, .int (nI (0))), (12, .int (nI (lo + 1))), (11, .int (nI (((a + lo) + hi) - m))), (10, .int (nI (tn))), (7, .int (nI (hi))), (6, .int (nI (lo))), (5, .int (nI (m - a))), (0, .ref (o.G.ad (21))), (1, .ref (o.G.ad (2 + r))), (2, .int (nI (a))), (3, .int (nI (m))), (4, .int (nI (b)))]) hB hm dc_Pi_joinFromSpare_169 rfl (by decide) rfl ?_
                refine y_aload_n (pc' := 172) hB dc_Pi_joinFromSpare_171 rfl rfl 8 rfl ?_
                refine f_P_judge (pc' := 175) hB dc_Pi_joinFromSpare_172 rfl q_90 ?_
                refine y_aload_n (pc' := 176) hB dc_Pi_joinFromSpare_175 rfl rfl 8 rfl ?_
                refine f_P_spare (pc' := 179) hB dc_Pi_joinFromSpare_176 rfl q_89 ?_
                refine y_iload (pc' := 181) hB dc_Pi_joinFromSpare_179 rfl 2 rfl ?_
                refine y_iload (pc' := 183) hB dc_Pi_joinFromSpare_181 rfl 7 rfl ?_
                refine y_aload_n (pc' := 184) hB dc_Pi_joinFromSpare_183 rfl rfl 9 rfl ?_
                refine f_keys (r := r) (pc' := 187) hB dc_Pi_joinFromSpare_184 rfl (by omega) q_43 ?_
                refine y_iload (pc' := 189) hB dc_Pi_joinFromSpare_187 rfl 5 rfl ?_
                refine y_lald (c := 8 + r) (n := 1024) (j := hi) (pc' := 190) hB dc_Pi_joinFromSpare_189 rfl (by unfold yN; omega) (yk_row (by omega)).2.1 (by omega) (by decide) ?_
                refine y_topl (y := (F hi).1) (by show (ye (yz S r g1) r hi).1 = _; rw [hr1, h5 hi (Or.inr (Nat.le_refl _))]) ?_
                refine y_aload_n (pc' := 191) hB dc_Pi_joinFromSpare_190 rfl rfl 9 rfl ?_
                refine f_tags (r := r) (pc' := 194) hB dc_Pi_joinFromSpare_191 rfl (by omega) q_48 ?_
                refine y_iload (pc' := 196) hB dc_Pi_joinFromSpare_194 rfl 5 rfl ?_
                refine y_iald (c := 14 + r) (n := 1024) (j := hi) (pc' := 197) hB dc_Pi_joinFromSpare_196 rfl (by unfold yN; omega) (yk_row (by omega)).2.2 (by omega) (by decide) ?_
                refine y_topi (y := (F hi).2) (by show (ye (yz S r g1) r hi).2 = _; rw [hr1, h5 hi (Or.inr (Nat.le_refl _))]) ?_
                refine y_iconst (v := nI 1) (pc' := 198) hB dc_Pi_joinFromSpare_197 rfl rfl ?_
                refine y_callV (c := 20) (ci := 2) (As := [.ref (o.G.ad (2 + 5)), .int (nI (lo + 1)), .int (nI (m - a)), .long ((F hi).1), .int ((F hi).2), .int (yb true)]) (rest := []) (pc' := 201) hB hE (ct_J_placeByLeaps o.l o.G (yq (yz S r g1) (c1 + 1)) od tg (c1 + 1) (yJ_yq (yJ_yz hJ r g1) (c1 + 1)) 5 (by decide) (lo + 1) (m - a) (by omega) (by omega) (fun i j e1 e2 e3 => by rw [h51 _ i (by omega), h51 _ j (by omega)]; exact o1 _ _ (by omega) (by omega) (by omega)) (F hi).1 (F hi).2 true) mm_J_placeByLeaps q_501 q_502 q_503 (by decide) rfl rfl dc_Pi_joinFromSpare_198 rfl (by decide) rfl rfl (Nat.le_of_ble_eq_true rfl) (fun v S' hpost => ?_)
                obtain ⟨p, c2, rfl, rfl, n1, n2, n3, n4, n5⟩ := hpost
                rw [yq_yq]
                show yW o (yq (yz S r g1) c2) 201 [(8, .int (nI (0))), (9, .int (nI (0))), (12, .int (nI (lo + 1))), (11, .int (nI (((a + lo) + hi) - m))), (10, .int (nI (tn))), (7, .int (nI (hi))), (6, .int (nI (lo))), (5, .int (nI (m - a))), (0, .ref (o.G.ad (21))), (1, .ref (o.G.ad (2 + r))), (2, .int (nI (a))), (3, .int (nI (m))), (4, .int (nI (b)))] [.int (nI (p))]
                refine y_istore (pc' := 203) (lv' := [(12, .int (nI (p))), (8, .int (nI (0))), (9, .int (nI (0))), (11, .int (nI (((a + lo) + hi) - m))), (10, .int (nI (tn))), (7, .int (nI (hi))), (6, .int (nI (lo))), (5, .int (nI (m - a))), (0, .ref (o.G.ad (21))), (1, .ref (o.G.ad (2 + r))), (2, .int (nI (a))), (3, .int (nI (m))), (4, .int (nI (b)))]) hB hm dc_Pi_joinFromSpare_201 rfl (by decide) rfl ?_
                refine y_sub [0, 3, 4, 2, 1, 5, 6, 7, 8, 9, 10, 11, 12] rfl ?_
                refine loway p 0 c2 b1 b3 (by omega) n2 (by omega) (fun j e1 e2 => ?_) (by omega)
                by_cases e : j = lo
                · rw [e]; omega
                · have e3 := zcd_t.mp (n3 j (by omega) e2)
                  rw [h51 _ j (by omega)] at e3
                  exact e3
            · rw [yb_n, decide_eq_true_eq] at b4
              refine y_iload (pc' := 73) hB dc_Pi_joinFromSpare_71 rfl 4 rfl ?_
              refine y_iconst (v := nI 1) (pc' := 74) hB dc_Pi_joinFromSpare_73 rfl rfl ?_
              refine n_iadd (x := hi) (y := 1) (pc' := 75) hB dc_Pi_joinFromSpare_74 rfl ?_
              refine y_istore (pc' := 77) (lv' := [(12, .int (nI (hi + 1))), (11, .int (nI (((a + lo) + hi) - m))), (10, .int (nI (tn))), (9, .int (nI (hw))), (8, .int (nI (lw))), (7, .int (nI (hi))), (6, .int (nI (lo))), (5, .int (nI (m - a))), (0, .ref (o.G.ad (21))), (1, .ref (o.G.ad (2 + r))), (2, .int (nI (a))), (3, .int (nI (m))), (4, .int (nI (b)))]) hB hm dc_Pi_joinFromSpare_75 rfl (by decide) rfl ?_
              refine y_iconst (v := nI 0) (pc' := 78) hB dc_Pi_joinFromSpare_77 rfl rfl ?_
              refine y_istore (pc' := 80) (lv' := [(8, .int (nI (0))), (12, .int (nI (hi + 1))), (11, .int (nI (((a + lo) + hi) - m))), (10, .int (nI (tn))), (9, .int (nI (hw))), (7, .int (nI (hi))), (6, .int (nI (lo))), (5, .int (nI (m - a))), (0, .ref (o.G.ad (21))), (1, .ref (o.G.ad (2 + r))), (2, .int (nI (a))), (3, .int (nI (m))), (4, .int (nI (b)))]) hB hm dc_Pi_joinFromSpare_78 rfl (by decide) rfl ?_
              refine n_inc (q := 4) (z := 1) (pc' := 83) (lv' := [(9, .int (nI (hw + 1))), (8, .int (nI (0))), (12, .int (nI (hi + 1))), (11, .int (nI (((a + lo) + hi) - m))), (10, .int (nI (tn))), (7, .int (nI (hi))), (6, .int (nI (lo))), (5, .int (nI (m - a))), (0, .ref (o.G.ad (21))), (1, .ref (o.G.ad (2 + r))), (2, .int (nI (a))), (3, .int (nI (m))), (4, .int (nI (b)))]) hB hm dc_Pi_joinFromSpare_80 rfl rfl (by decide) rfl ?_
              refine y_iload (pc' := 85) hB dc_Pi_joinFromSpare_83 rfl 0 rfl ?_
              refine y_bipush (v := nI 7) (pc' := 87) hB dc_Pi_joinFromSpare_85 rfl (by decide) ?_
              refine n_icmp_lt (pc' := 90) (tg := 128) hB dc_Pi_joinFromSpare_87 rfl rfl (by omega) (by omega) (fun b5 => ?_) (fun b5 => ?_)
              · refine y_sub [2, 3, 4, 0, 1, 5, 6, 7, 8, 9, 10, 11, 12] rfl ?_
                refine hiway (hi + 1) (hw + 1) (c1 + 1) b1 b2 (by omega) (by omega) b5 (fun j e1 e2 => ?_) (by omega)
                rw [show j = hi by omega]
                exact b4
              · refine y_iconst (v := nI 0) (pc' := 91) hB dc_Pi_joinFromSpare_90 rfl rfl ?_
                refine y_istore (pc' := 93) (lv' := [(9, .int (nI (0))), (8, .int (nI (0))), (12, .int (nI (hi + 1))), (11, .int (nI (((a + lo) + hi) - m))), (10, .int (nI (tn))), (7, .int (nI (hi))), (6, .int (nI (lo))), (5, .int (nI (m - a))), (0, .ref (o.G.ad (21))), (1, .ref (o.G.ad (2 + r))), (2, .int (nI (a))), (3, .int (nI (m))), (4, .int (nI (b)))]) hB hm dc_Pi_joinFromSpare_91 rfl (by decide) rfl ?_
                refine y_aload_n (pc' := 94) hB dc_Pi_joinFromSpare_93 rfl rfl 8 rfl ?_
                refine f_P_judge (pc' := 97) hB dc_Pi_joinFromSpare_94 rfl q_90 ?_
                refine y_aload_n (pc' := 98) hB dc_Pi_joinFromSpare_97 rfl rfl 9 rfl ?_
                refine y_iload (pc' := 100) hB dc_Pi_joinFromSpare_98 rfl 2 rfl ?_
                refine y_iload (pc' := 102) hB dc_Pi_joinFromSpare_100 rfl 12 rfl ?_
                refine y_aload_n (pc' := 103) hB dc_Pi_joinFromSpare_102 rfl rfl 8 rfl ?_
                refine f_P_spare (pc' := 106) hB dc_Pi_joinFromSpare_103 rfl q_89 ?_
                refine f_keys (r := 5) (pc' := 109) hB dc_Pi_joinFromSpare_106 rfl (by omega) q_43 ?_
                refine y_iload (pc' := 111) hB dc_Pi_joinFromSpare_109 rfl 6 rfl ?_
                refine y_lald (c := 8 + 5) (n := 1024) (j := lo) (pc' := 112) hB dc_Pi_joinFromSpare_111 rfl (by unfold yN; omega) (yk_row (by omega)).2.1 (by omega) (by decide) ?_
                refine y_topl (y := (F (a + lo)).1) (congrArg Prod.fst (h51 (c1 + 1) lo b2)) ?_
                refine y_aload_n (pc' := 113) hB dc_Pi_joinFromSpare_112 rfl rfl 8 rfl ?_
                refine f_P_spare (pc' := 116) hB dc_Pi_joinFromSpare_113 rfl q_89 ?_
                refine f_tags (r := 5) (pc' := 119) hB dc_Pi_joinFromSpare_116 rfl (by omega) q_48 ?_
                refine y_iload (pc' := 121) hB dc_Pi_joinFromSpare_119 rfl 6 rfl ?_
                refine y_iald (c := 14 + 5) (n := 1024) (j := lo) (pc' := 122) hB dc_Pi_joinFromSpare_121 rfl (by unfold yN; omega) (yk_row (by omega)).2.2 (by omega) (by decide) ?_
                refine y_topi (y := (F (a + lo)).2) (congrArg Prod.snd (h51 (c1 + 1) lo b2)) ?_
                refine y_iconst (v := nI 0) (pc' := 123) hB dc_Pi_joinFromSpare_122 rfl rfl ?_
                refine y_callV (c := 20) (ci := 2) (As := [.ref (o.G.ad (2 + r)), .int (nI (hi + 1)), .int (nI (b)), .long ((F (a + lo)).1), .int ((F (a + lo)).2), .int (yb false)]) (rest := []) (pc' := 126) hB hE (ct_J_placeByLeaps o.l o.G (yq (yz S r g1) (c1 + 1)) od tg (c1 + 1) (yJ_yq (yJ_yz hJ r g1) (c1 + 1)) r hr (hi + 1) b (by omega) (by omega) (fun i j e1 e2 e3 => by rw [ye_yq, hr1, h5 i (by omega), h5 j (by omega)]; exact o2 _ _ (by omega) (by omega) (by omega)) (F (a + lo)).1 (F (a + lo)).2 false) mm_J_placeByLeaps q_501 q_502 q_503 (by decide) rfl rfl dc_Pi_joinFromSpare_123 rfl (by decide) rfl rfl (Nat.le_of_ble_eq_true rfl) (fun v S' hpost => ?_)
                obtain ⟨p, c2, rfl, rfl, n1, n2, n3, n4, n5⟩ := hpost
                rw [yq_yq]
                show yW o (yq (yz S r g1) c2) 126 [(9, .int (nI (0))), (8, .int (nI (0))), (12, .int (nI (hi + 1))), (11, .int (nI (((a + lo) + hi) - m))), (10, .int (nI (tn))), (7, .int (nI (hi))), (6, .int (nI (lo))), (5, .int (nI (m - a))), (0, .ref (o.G.ad (21))), (1, .ref (o.G.ad (2 + r))), (2, .int (nI (a))), (3, .int (nI (m))), (4, .int (nI (b)))] [.int (nI (p))]
                refine y_istore (pc' := 128) (lv' := [(12, .int (nI (p))), (9, .int (nI (0))), (8, .int (nI (0))), (11, .int (nI (((a + lo) + hi) - m))), (10, .int (nI (tn))), (7, .int (nI (hi))), (6, .int (nI (lo))), (5, .int (nI (m - a))), (0, .ref (o.G.ad (21))), (1, .ref (o.G.ad (2 + r))), (2, .int (nI (a))), (3, .int (nI (m))), (4, .int (nI (b)))]) hB hm dc_Pi_joinFromSpare_126 rfl (by decide) rfl ?_
                refine y_sub [0, 3, 4, 1, 2, 5, 6, 7, 8, 9, 10, 11, 12] rfl ?_
                refine hiway p 0 c2 b1 b2 (by omega) n2 (by omega) (fun j e1 e2 => ?_) (by omega)
                by_cases e : j = hi
                · rw [e]; exact b4
                · have e3 := zcd_f.mp (n3 j (by omega) e2)
                  rw [ye_yq, hr1, h5 j (by omega)] at e3
                  exact e3
  have h0 := loop (b + 1) a 0 0 m 0 c (ye S r) (by omega) (by omega) (by omega) (by omega) (by omega) (fun j _ => congrFun hF j) (by rw [Nat.sub_self, Nat.add_zero, Nat.add_zero, zs_zero]; exact zJ_0) (by omega)
  rw [yz_self, yq_self hJ] at h0
  exact h0
