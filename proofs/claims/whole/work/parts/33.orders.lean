/-! ORDERS: Long.compare, Integer.compare, Judge.compareKeys -/
theorem dc_jL_compare_0 : decode mb_jL_compare 0 = .ok (.lload_n 0, 1) := by decide +kernel
theorem dc_jL_compare_1 : decode mb_jL_compare 1 = .ok (.lload_n 2, 1) := by decide +kernel
theorem dc_jL_compare_2 : decode mb_jL_compare 2 = .ok (.lcmp, 1) := by decide +kernel
theorem dc_jL_compare_3 : decode mb_jL_compare 3 = .ok (.ifCond .ge 7, 3) := by decide +kernel
theorem dc_jL_compare_6 : decode mb_jL_compare 6 = .ok (.iconst (-1), 1) := by decide +kernel
theorem dc_jL_compare_7 : decode mb_jL_compare 7 = .ok (.goto 14, 3) := by decide +kernel
theorem dc_jL_compare_10 : decode mb_jL_compare 10 = .ok (.lload_n 0, 1) := by decide +kernel
theorem dc_jL_compare_11 : decode mb_jL_compare 11 = .ok (.lload_n 2, 1) := by decide +kernel
theorem dc_jL_compare_12 : decode mb_jL_compare 12 = .ok (.lcmp, 1) := by decide +kernel
theorem dc_jL_compare_13 : decode mb_jL_compare 13 = .ok (.ifCond .ne 7, 3) := by decide +kernel
theorem dc_jL_compare_16 : decode mb_jL_compare 16 = .ok (.iconst 0, 1) := by decide +kernel
theorem dc_jL_compare_17 : decode mb_jL_compare 17 = .ok (.goto 4, 3) := by decide +kernel
theorem dc_jL_compare_20 : decode mb_jL_compare 20 = .ok (.iconst 1, 1) := by decide +kernel
theorem dc_jL_compare_21 : decode mb_jL_compare 21 = .ok (.ireturn, 1) := by decide +kernel
theorem dc_jI_compare_0 : decode mb_jI_compare 0 = .ok (.iload_n 0, 1) := by decide +kernel
theorem dc_jI_compare_1 : decode mb_jI_compare 1 = .ok (.iload_n 1, 1) := by decide +kernel
theorem dc_jI_compare_2 : decode mb_jI_compare 2 = .ok (.if_icmp .ge 7, 3) := by decide +kernel
theorem dc_jI_compare_5 : decode mb_jI_compare 5 = .ok (.iconst (-1), 1) := by decide +kernel
theorem dc_jI_compare_6 : decode mb_jI_compare 6 = .ok (.goto 13, 3) := by decide +kernel
theorem dc_jI_compare_9 : decode mb_jI_compare 9 = .ok (.iload_n 0, 1) := by decide +kernel
theorem dc_jI_compare_10 : decode mb_jI_compare 10 = .ok (.iload_n 1, 1) := by decide +kernel
theorem dc_jI_compare_11 : decode mb_jI_compare 11 = .ok (.if_icmp .ne 7, 3) := by decide +kernel
theorem dc_jI_compare_14 : decode mb_jI_compare 14 = .ok (.iconst 0, 1) := by decide +kernel
theorem dc_jI_compare_15 : decode mb_jI_compare 15 = .ok (.goto 4, 3) := by decide +kernel
theorem dc_jI_compare_18 : decode mb_jI_compare 18 = .ok (.iconst 1, 1) := by decide +kernel
theorem dc_jI_compare_19 : decode mb_jI_compare 19 = .ok (.ireturn, 1) := by decide +kernel
theorem dc_J_compareKeys_0 : decode mb_J_compareKeys 0 = .ok (.lload_n 1, 1) := by decide +kernel
theorem dc_J_compareKeys_1 : decode mb_J_compareKeys 1 = .ok (.lstore 5, 2) := by decide +kernel
theorem dc_J_compareKeys_3 : decode mb_J_compareKeys 3 = .ok (.lload_n 3, 1) := by decide +kernel
theorem dc_J_compareKeys_4 : decode mb_J_compareKeys 4 = .ok (.lstore 7, 2) := by decide +kernel
theorem dc_J_compareKeys_6 : decode mb_J_compareKeys 6 = .ok (.iload_n 0, 1) := by decide +kernel
theorem dc_J_compareKeys_7 : decode mb_J_compareKeys 7 = .ok (.tableswitch 190 1 7 #[41, 50, 67, 84, 97, 114, 145], 41) := by decide +kernel
theorem dc_J_compareKeys_48 : decode mb_J_compareKeys 48 = .ok (.lload_n 3, 1) := by decide +kernel
theorem dc_J_compareKeys_49 : decode mb_J_compareKeys 49 = .ok (.lstore 5, 2) := by decide +kernel
theorem dc_J_compareKeys_51 : decode mb_J_compareKeys 51 = .ok (.lload_n 1, 1) := by decide +kernel
theorem dc_J_compareKeys_52 : decode mb_J_compareKeys 52 = .ok (.lstore 7, 2) := by decide +kernel
theorem dc_J_compareKeys_54 : decode mb_J_compareKeys 54 = .ok (.goto 143, 3) := by decide +kernel
theorem dc_J_compareKeys_57 : decode mb_J_compareKeys 57 = .ok (.lload_n 1, 1) := by decide +kernel
theorem dc_J_compareKeys_58 : decode mb_J_compareKeys 58 = .ok (.ldc2_w 62, 3) := by decide +kernel
theorem dc_J_compareKeys_61 : decode mb_J_compareKeys 61 = .ok (.lxor, 1) := by decide +kernel
theorem dc_J_compareKeys_62 : decode mb_J_compareKeys 62 = .ok (.lstore 5, 2) := by decide +kernel
theorem dc_J_compareKeys_64 : decode mb_J_compareKeys 64 = .ok (.lload_n 3, 1) := by decide +kernel
theorem dc_J_compareKeys_65 : decode mb_J_compareKeys 65 = .ok (.ldc2_w 62, 3) := by decide +kernel
theorem dc_J_compareKeys_68 : decode mb_J_compareKeys 68 = .ok (.lxor, 1) := by decide +kernel
theorem dc_J_compareKeys_69 : decode mb_J_compareKeys 69 = .ok (.lstore 7, 2) := by decide +kernel
theorem dc_J_compareKeys_71 : decode mb_J_compareKeys 71 = .ok (.goto 126, 3) := by decide +kernel
theorem dc_J_compareKeys_74 : decode mb_J_compareKeys 74 = .ok (.lload_n 1, 1) := by decide +kernel
theorem dc_J_compareKeys_75 : decode mb_J_compareKeys 75 = .ok (.invokestatic 64, 3) := by decide +kernel
theorem dc_J_compareKeys_78 : decode mb_J_compareKeys 78 = .ok (.i2l, 1) := by decide +kernel
theorem dc_J_compareKeys_79 : decode mb_J_compareKeys 79 = .ok (.lstore 5, 2) := by decide +kernel
theorem dc_J_compareKeys_81 : decode mb_J_compareKeys 81 = .ok (.lload_n 3, 1) := by decide +kernel
theorem dc_J_compareKeys_82 : decode mb_J_compareKeys 82 = .ok (.invokestatic 64, 3) := by decide +kernel
theorem dc_J_compareKeys_85 : decode mb_J_compareKeys 85 = .ok (.i2l, 1) := by decide +kernel
theorem dc_J_compareKeys_86 : decode mb_J_compareKeys 86 = .ok (.lstore 7, 2) := by decide +kernel
theorem dc_J_compareKeys_88 : decode mb_J_compareKeys 88 = .ok (.goto 109, 3) := by decide +kernel
theorem dc_J_compareKeys_91 : decode mb_J_compareKeys 91 = .ok (.lload_n 1, 1) := by decide +kernel
theorem dc_J_compareKeys_92 : decode mb_J_compareKeys 92 = .ok (.lconst 1, 1) := by decide +kernel
theorem dc_J_compareKeys_93 : decode mb_J_compareKeys 93 = .ok (.land, 1) := by decide +kernel
theorem dc_J_compareKeys_94 : decode mb_J_compareKeys 94 = .ok (.lstore 5, 2) := by decide +kernel
theorem dc_J_compareKeys_96 : decode mb_J_compareKeys 96 = .ok (.lload_n 3, 1) := by decide +kernel
theorem dc_J_compareKeys_97 : decode mb_J_compareKeys 97 = .ok (.lconst 1, 1) := by decide +kernel
theorem dc_J_compareKeys_98 : decode mb_J_compareKeys 98 = .ok (.land, 1) := by decide +kernel
theorem dc_J_compareKeys_99 : decode mb_J_compareKeys 99 = .ok (.lstore 7, 2) := by decide +kernel
theorem dc_J_compareKeys_101 : decode mb_J_compareKeys 101 = .ok (.goto 96, 3) := by decide +kernel
theorem dc_J_compareKeys_104 : decode mb_J_compareKeys 104 = .ok (.lload_n 1, 1) := by decide +kernel
theorem dc_J_compareKeys_105 : decode mb_J_compareKeys 105 = .ok (.ldc2_w 68, 3) := by decide +kernel
theorem dc_J_compareKeys_108 : decode mb_J_compareKeys 108 = .ok (.land, 1) := by decide +kernel
theorem dc_J_compareKeys_109 : decode mb_J_compareKeys 109 = .ok (.lstore 5, 2) := by decide +kernel
theorem dc_J_compareKeys_111 : decode mb_J_compareKeys 111 = .ok (.lload_n 3, 1) := by decide +kernel
theorem dc_J_compareKeys_112 : decode mb_J_compareKeys 112 = .ok (.ldc2_w 68, 3) := by decide +kernel
theorem dc_J_compareKeys_115 : decode mb_J_compareKeys 115 = .ok (.land, 1) := by decide +kernel
theorem dc_J_compareKeys_116 : decode mb_J_compareKeys 116 = .ok (.lstore 7, 2) := by decide +kernel
theorem dc_J_compareKeys_118 : decode mb_J_compareKeys 118 = .ok (.goto 79, 3) := by decide +kernel
theorem dc_J_compareKeys_121 : decode mb_J_compareKeys 121 = .ok (.lload_n 3, 1) := by decide +kernel
theorem dc_J_compareKeys_122 : decode mb_J_compareKeys 122 = .ok (.lconst 0, 1) := by decide +kernel
theorem dc_J_compareKeys_123 : decode mb_J_compareKeys 123 = .ok (.lcmp, 1) := by decide +kernel
theorem dc_J_compareKeys_124 : decode mb_J_compareKeys 124 = .ok (.ifCond .ge 7, 3) := by decide +kernel
theorem dc_J_compareKeys_127 : decode mb_J_compareKeys 127 = .ok (.lload_n 3, 1) := by decide +kernel
theorem dc_J_compareKeys_128 : decode mb_J_compareKeys 128 = .ok (.goto 5, 3) := by decide +kernel
theorem dc_J_compareKeys_131 : decode mb_J_compareKeys 131 = .ok (.lload_n 3, 1) := by decide +kernel
theorem dc_J_compareKeys_132 : decode mb_J_compareKeys 132 = .ok (.lneg, 1) := by decide +kernel
theorem dc_J_compareKeys_133 : decode mb_J_compareKeys 133 = .ok (.lstore 5, 2) := by decide +kernel
theorem dc_J_compareKeys_135 : decode mb_J_compareKeys 135 = .ok (.lload_n 1, 1) := by decide +kernel
theorem dc_J_compareKeys_136 : decode mb_J_compareKeys 136 = .ok (.lconst 0, 1) := by decide +kernel
theorem dc_J_compareKeys_137 : decode mb_J_compareKeys 137 = .ok (.lcmp, 1) := by decide +kernel
theorem dc_J_compareKeys_138 : decode mb_J_compareKeys 138 = .ok (.ifCond .ge 7, 3) := by decide +kernel
theorem dc_J_compareKeys_141 : decode mb_J_compareKeys 141 = .ok (.lload_n 1, 1) := by decide +kernel
theorem dc_J_compareKeys_142 : decode mb_J_compareKeys 142 = .ok (.goto 5, 3) := by decide +kernel
theorem dc_J_compareKeys_145 : decode mb_J_compareKeys 145 = .ok (.lload_n 1, 1) := by decide +kernel
theorem dc_J_compareKeys_146 : decode mb_J_compareKeys 146 = .ok (.lneg, 1) := by decide +kernel
theorem dc_J_compareKeys_147 : decode mb_J_compareKeys 147 = .ok (.lstore 7, 2) := by decide +kernel
theorem dc_J_compareKeys_149 : decode mb_J_compareKeys 149 = .ok (.goto 48, 3) := by decide +kernel
theorem dc_J_compareKeys_152 : decode mb_J_compareKeys 152 = .ok (.lload_n 1, 1) := by decide +kernel
theorem dc_J_compareKeys_153 : decode mb_J_compareKeys 153 = .ok (.lload_n 3, 1) := by decide +kernel
theorem dc_J_compareKeys_154 : decode mb_J_compareKeys 154 = .ok (.lxor, 1) := by decide +kernel
theorem dc_J_compareKeys_155 : decode mb_J_compareKeys 155 = .ok (.lload_n 1, 1) := by decide +kernel
theorem dc_J_compareKeys_156 : decode mb_J_compareKeys 156 = .ok (.lload_n 3, 1) := by decide +kernel
theorem dc_J_compareKeys_157 : decode mb_J_compareKeys 157 = .ok (.lxor, 1) := by decide +kernel
theorem dc_J_compareKeys_158 : decode mb_J_compareKeys 158 = .ok (.lneg, 1) := by decide +kernel
theorem dc_J_compareKeys_159 : decode mb_J_compareKeys 159 = .ok (.land, 1) := by decide +kernel
theorem dc_J_compareKeys_160 : decode mb_J_compareKeys 160 = .ok (.lstore 9, 2) := by decide +kernel
theorem dc_J_compareKeys_162 : decode mb_J_compareKeys 162 = .ok (.lload_n 1, 1) := by decide +kernel
theorem dc_J_compareKeys_163 : decode mb_J_compareKeys 163 = .ok (.lload 9, 2) := by decide +kernel
theorem dc_J_compareKeys_165 : decode mb_J_compareKeys 165 = .ok (.land, 1) := by decide +kernel
theorem dc_J_compareKeys_166 : decode mb_J_compareKeys 166 = .ok (.lconst 0, 1) := by decide +kernel
theorem dc_J_compareKeys_167 : decode mb_J_compareKeys 167 = .ok (.lcmp, 1) := by decide +kernel
theorem dc_J_compareKeys_168 : decode mb_J_compareKeys 168 = .ok (.ifCond .ne 7, 3) := by decide +kernel
theorem dc_J_compareKeys_171 : decode mb_J_compareKeys 171 = .ok (.lconst 0, 1) := by decide +kernel
theorem dc_J_compareKeys_172 : decode mb_J_compareKeys 172 = .ok (.goto 4, 3) := by decide +kernel
theorem dc_J_compareKeys_175 : decode mb_J_compareKeys 175 = .ok (.lconst 1, 1) := by decide +kernel
theorem dc_J_compareKeys_176 : decode mb_J_compareKeys 176 = .ok (.lstore 5, 2) := by decide +kernel
theorem dc_J_compareKeys_178 : decode mb_J_compareKeys 178 = .ok (.lload_n 3, 1) := by decide +kernel
theorem dc_J_compareKeys_179 : decode mb_J_compareKeys 179 = .ok (.lload 9, 2) := by decide +kernel
theorem dc_J_compareKeys_181 : decode mb_J_compareKeys 181 = .ok (.land, 1) := by decide +kernel
theorem dc_J_compareKeys_182 : decode mb_J_compareKeys 182 = .ok (.lconst 0, 1) := by decide +kernel
theorem dc_J_compareKeys_183 : decode mb_J_compareKeys 183 = .ok (.lcmp, 1) := by decide +kernel
theorem dc_J_compareKeys_184 : decode mb_J_compareKeys 184 = .ok (.ifCond .ne 7, 3) := by decide +kernel
theorem dc_J_compareKeys_187 : decode mb_J_compareKeys 187 = .ok (.lconst 0, 1) := by decide +kernel
theorem dc_J_compareKeys_188 : decode mb_J_compareKeys 188 = .ok (.goto 4, 3) := by decide +kernel
theorem dc_J_compareKeys_191 : decode mb_J_compareKeys 191 = .ok (.lconst 1, 1) := by decide +kernel
theorem dc_J_compareKeys_192 : decode mb_J_compareKeys 192 = .ok (.lstore 7, 2) := by decide +kernel
theorem dc_J_compareKeys_194 : decode mb_J_compareKeys 194 = .ok (.goto 3, 3) := by decide +kernel
theorem dc_J_compareKeys_197 : decode mb_J_compareKeys 197 = .ok (.lload 5, 2) := by decide +kernel
theorem dc_J_compareKeys_199 : decode mb_J_compareKeys 199 = .ok (.lload 7, 2) := by decide +kernel
theorem dc_J_compareKeys_201 : decode mb_J_compareKeys 201 = .ok (.lcmp, 1) := by decide +kernel
theorem dc_J_compareKeys_202 : decode mb_J_compareKeys 202 = .ok (.ifCond .ne 20, 3) := by decide +kernel
theorem dc_J_compareKeys_205 : decode mb_J_compareKeys 205 = .ok (.iload_n 0, 1) := by decide +kernel
theorem dc_J_compareKeys_206 : decode mb_J_compareKeys 206 = .ok (.iconst 3, 1) := by decide +kernel
theorem dc_J_compareKeys_207 : decode mb_J_compareKeys 207 = .ok (.if_icmp .eq 9, 3) := by decide +kernel
theorem dc_J_compareKeys_210 : decode mb_J_compareKeys 210 = .ok (.iload_n 0, 1) := by decide +kernel
theorem dc_J_compareKeys_211 : decode mb_J_compareKeys 211 = .ok (.bipush 6, 2) := by decide +kernel
theorem dc_J_compareKeys_213 : decode mb_J_compareKeys 213 = .ok (.if_icmp .ne 9, 3) := by decide +kernel
theorem dc_J_compareKeys_216 : decode mb_J_compareKeys 216 = .ok (.lload_n 1, 1) := by decide +kernel
theorem dc_J_compareKeys_217 : decode mb_J_compareKeys 217 = .ok (.lstore 5, 2) := by decide +kernel
theorem dc_J_compareKeys_219 : decode mb_J_compareKeys 219 = .ok (.lload_n 3, 1) := by decide +kernel
theorem dc_J_compareKeys_220 : decode mb_J_compareKeys 220 = .ok (.lstore 7, 2) := by decide +kernel
theorem dc_J_compareKeys_222 : decode mb_J_compareKeys 222 = .ok (.lload 5, 2) := by decide +kernel
theorem dc_J_compareKeys_224 : decode mb_J_compareKeys 224 = .ok (.lload 7, 2) := by decide +kernel
theorem dc_J_compareKeys_226 : decode mb_J_compareKeys 226 = .ok (.lcmp, 1) := by decide +kernel
theorem dc_J_compareKeys_227 : decode mb_J_compareKeys 227 = .ok (.ifCond .ge 7, 3) := by decide +kernel
theorem dc_J_compareKeys_230 : decode mb_J_compareKeys 230 = .ok (.iconst (-1), 1) := by decide +kernel
theorem dc_J_compareKeys_231 : decode mb_J_compareKeys 231 = .ok (.goto 16, 3) := by decide +kernel
theorem dc_J_compareKeys_234 : decode mb_J_compareKeys 234 = .ok (.lload 5, 2) := by decide +kernel
theorem dc_J_compareKeys_236 : decode mb_J_compareKeys 236 = .ok (.lload 7, 2) := by decide +kernel
theorem dc_J_compareKeys_238 : decode mb_J_compareKeys 238 = .ok (.lcmp, 1) := by decide +kernel
theorem dc_J_compareKeys_239 : decode mb_J_compareKeys 239 = .ok (.ifCond .le 7, 3) := by decide +kernel
theorem dc_J_compareKeys_242 : decode mb_J_compareKeys 242 = .ok (.iconst 1, 1) := by decide +kernel
theorem dc_J_compareKeys_243 : decode mb_J_compareKeys 243 = .ok (.goto 4, 3) := by decide +kernel
theorem dc_J_compareKeys_246 : decode mb_J_compareKeys 246 = .ok (.iconst 0, 1) := by decide +kernel
theorem dc_J_compareKeys_247 : decode mb_J_compareKeys 247 = .ok (.ireturn, 1) := by decide +kernel
theorem lg_c {x y : Int64} : lg_cmp x y = if x.toInt < y.toInt then -1 else if y.toInt < x.toInt then 1 else 0 := by
  unfold lg_cmp
  by_cases h : y < x
  · have h1 := Int64.lt_iff_toInt_lt.mp h
    rw [if_pos h, if_neg (by omega), if_pos h1]
  · rw [if_neg h]
    have h1 : ¬ y.toInt < x.toInt := fun q => h (Int64.lt_iff_toInt_lt.mpr q)
    by_cases h2 : x = y
    · subst h2
      rw [if_pos rfl, if_neg (by omega), if_neg (by omega)]
    · have h3 : x.toInt ≠ y.toInt := fun q => h2 (Int64.toInt_inj.mp q)
      rw [if_neg h2, if_pos (by omega)]
theorem lg_g {x y : Int64} : lg_cmp x y = zg x.toInt y.toInt := lg_c
theorem lg_ge {x y : Int64} : 0 ≤ lg_cmp x y ↔ y.toInt ≤ x.toInt := by rw [lg_g]; exact zg_ge
theorem lg_lt {x y : Int64} : lg_cmp x y < 0 ↔ x.toInt < y.toInt := by rw [lg_g]; exact zg_lt
theorem lg_0 {x y : Int64} : lg_cmp x y = 0 ↔ x = y := by rw [lg_g, zg_0]; exact Int64.toInt_inj
theorem lg_le {x y : Int64} : lg_cmp x y ≤ 0 ↔ x.toInt ≤ y.toInt := by
  rw [lg_g]
  unfold zg
  split
  · rename_i h
    constructor
    · intro _; omega
    · intro _; decide
  · rename_i h
    split
    · rename_i h2
      constructor
      · intro q; exact absurd q (by decide)
      · intro q; omega
    · rename_i h2
      constructor
      · intro _; omega
      · intro _; decide
theorem zg_eq {a b c d : Int} (h1 : a < b ↔ c < d) (h2 : b < a ↔ d < c) : zg a b = zg c d := by
  unfold zg
  by_cases h3 : a < b
  · rw [if_pos h3, if_pos (h1.mp h3)]
  · rw [if_neg h3, if_neg (fun q => h3 (h1.mpr q))]
    by_cases h4 : b < a
    · rw [if_pos h4, if_pos (h2.mp h4)]
    · rw [if_neg h4, if_neg (fun q => h4 (h2.mpr q))]
theorem zo7_bit (a b : Int64) {i : Nat} (hi : i < 64) : ((a ^^^ b) &&& -(a ^^^ b)).toBitVec.getLsbD i = ((a.toBitVec.getLsbD i ^^ b.toBitVec.getLsbD i) && !decide (∃ j, j < i ∧ (a.toBitVec.getLsbD j ^^ b.toBitVec.getLsbD j) = true)) := by
  show ((a.toBitVec ^^^ b.toBitVec) &&& -(a.toBitVec ^^^ b.toBitVec)).getLsbD i = _
  rw [BitVec.getLsbD_and, BitVec.getLsbD_neg]
  simp only [BitVec.getLsbD_xor, hi, decide_true, Bool.true_and]
  cases (a.toBitVec.getLsbD i ^^ b.toBitVec.getLsbD i) <;> simp
theorem zb_xor (a b : Int64) (k : Nat) : (a.toBitVec.getLsbD k ^^ b.toBitVec.getLsbD k) = true ↔ zb a k ≠ zb b k := by
  unfold zb
  cases a.toBitVec.getLsbD k <;> cases b.toBitVec.getLsbD k <;> simp
theorem zo7 {a b d : Int64} (hd : d = (a ^^^ b) &&& -(a ^^^ b)) : (a = b ∧ a &&& d = 0 ∧ b &&& d = 0) ∨ (zv a 64 < zv b 64 ∧ a &&& d = 0 ∧ ¬ (b &&& d = 0)) ∨ (zv b 64 < zv a 64 ∧ ¬ (a &&& d = 0) ∧ b &&& d = 0) := by
  by_cases hab : a = b
  · subst hab
    have h0 : d = 0 := by
      rw [hd]
      apply Int64.toBitVec_inj.mp
      apply BitVec.eq_of_getLsbD_eq
      intro i hi
      rw [zo7_bit a a hi]
      simp
    subst h0
    exact Or.inl ⟨rfl, by simp, by simp⟩
  · have hex : ∃ k, zb a k ≠ zb b k := by
      apply Classical.byContradiction
      intro hn
      apply hab
      apply Int64.toBitVec_inj.mp
      apply BitVec.eq_of_getLsbD_eq
      intro i hi
      have h1 : zb a i = zb b i := Classical.byContradiction fun q => hn ⟨i, q⟩
      unfold zb at h1
      revert h1
      cases a.toBitVec.getLsbD i <;> cases b.toBitVec.getLsbD i <;> simp
    obtain ⟨k, hk, hmin⟩ := pk_least _ hex
    have hk64 : k < 64 := by
      apply Classical.byContradiction
      intro q
      apply hk
      unfold zb
      rw [BitVec.getLsbD_of_ge _ _ (by omega), BitVec.getLsbD_of_ge _ _ (by omega)]
    have he : ∀ j, j < k → zb a j = zb b j := fun j hj => Classical.byContradiction fun q => hmin j hj q
    have hbit : ∀ i, i < 64 → d.toBitVec.getLsbD i = decide (i = k) := by
      intro i hi
      rw [hd, zo7_bit a b hi]
      by_cases hik : i = k
      · subst hik
        have h1 := (zb_xor a b i).mpr hk
        have h2 : ¬ ∃ j, j < i ∧ (a.toBitVec.getLsbD j ^^ b.toBitVec.getLsbD j) = true := by
          rintro ⟨j, hj, hx⟩
          exact (zb_xor a b j).mp hx (he j hj)
        rw [decide_eq_false h2, h1]
        simp
      · by_cases hlt : i < k
        · have h1 : (a.toBitVec.getLsbD i ^^ b.toBitVec.getLsbD i) = false := by
            cases hx : (a.toBitVec.getLsbD i ^^ b.toBitVec.getLsbD i) with
            | false => rfl
            | true => exact absurd (he i hlt) ((zb_xor a b i).mp hx)
          simp [h1, hik]
        · have h2 : ∃ j, j < i ∧ (a.toBitVec.getLsbD j ^^ b.toBitVec.getLsbD j) = true := ⟨k, by omega, (zb_xor a b k).mpr hk⟩
          rw [decide_eq_true h2]
          simp [hik]
    have hand : ∀ x : Int64, x &&& d = 0 ↔ zb x k = 0 := by
      intro x
      constructor
      · intro h
        have h1 : (x &&& d).toBitVec.getLsbD k = false := by rw [h]; simp
        have h2 : (x.toBitVec &&& d.toBitVec).getLsbD k = false := h1
        rw [BitVec.getLsbD_and, hbit k hk64] at h2
        simp at h2
        simp [zb, h2]
      · intro h
        apply Int64.toBitVec_inj.mp
        apply BitVec.eq_of_getLsbD_eq
        intro i hi
        show (x.toBitVec &&& d.toBitVec).getLsbD i = _
        rw [BitVec.getLsbD_and, hbit i hi]
        by_cases hik : i = k
        · subst hik
          have h3 : x.toBitVec.getLsbD i = false := by
            revert h
            unfold zb
            cases x.toBitVec.getLsbD i <;> simp
          simp [h3]
        · simp [hik]
    rcases zb_01 a k with ha | ha <;> rcases zb_01 b k with hb | hb
    · exact absurd (ha.trans hb.symm) hk
    · exact Or.inr (Or.inl ⟨zv_lt ha hb he 64 hk64, (hand a).mpr ha, fun q => by have := (hand b).mp q; omega⟩)
    · exact Or.inr (Or.inr ⟨zv_lt hb ha (fun j hj => (he j hj).symm) 64 hk64, fun q => by have := (hand a).mp q; omega, (hand b).mpr hb⟩)
    · exact absurd (ha.trans hb.symm) hk
theorem zr_0 (x : Int64) : zr 0 x = x.toInt := rfl
theorem zr_1 (x : Int64) : zr 1 x = -x.toInt := rfl
theorem zr_2 (x : Int64) : zr 2 x = (zu x : Int) := rfl
theorem zr_3 (x : Int64) : zr 3 x = (zn x 64 : Int) * 18446744073709551616 + x.toInt := rfl
theorem zr_4 (x : Int64) : zr 4 x = ((zu x % 2 : Nat) : Int) := rfl
theorem zr_5 (x : Int64) : zr 5 x = ((zu x % 256 : Nat) : Int) := rfl
theorem zr_6 (x : Int64) : zr 6 x = (x.toInt.natAbs : Int) * 18446744073709551616 + x.toInt := rfl
theorem zr_7 (x : Int64) : zr 7 x = (zv x 64 : Int) := rfl
/-- what the two values that are compared at the end must give -/
def zcr (od : Nat) (a b x y : Int64) : Prop := (if x = y ∧ (od = 3 ∨ od = 6) then zg a.toInt b.toInt else zg x.toInt y.toInt) = zg (zr od a) (zr od b)
theorem zcr_0 (a b : Int64) : zcr 0 a b a b := by
  unfold zcr
  rw [if_neg (by omega)]
  rfl
theorem zcr_1 (a b : Int64) : zcr 1 a b b a := by
  unfold zcr
  rw [if_neg (by omega)]
  refine zg_eq ?_ ?_ <;> (rw [zr_1, zr_1]; omega)
theorem zcr_2 (a b : Int64) : zcr 2 a b (a ^^^ (-9223372036854775808)) (b ^^^ (-9223372036854775808)) := by
  unfold zcr
  rw [if_neg (by omega), zx_sign, zx_sign]
  refine zg_eq ?_ ?_ <;> (rw [zr_2, zr_2]; omega)
theorem nI_l64 {n : Nat} (h : n < 2 ^ 31) : (Int32.toInt64 (nI n)).toInt = (n : Int) := by rw [nI_l h, lN_toInt h]
theorem zn_le (x : Int64) : ∀ k, zn x k ≤ k := by
  intro k
  induction k with
  | zero => exact Nat.le_refl _
  | succ k ih =>
    have := zb_01 x k
    show zn x k + zb x k ≤ k + 1
    omega
theorem zcr_3 (a b : Int64) : zcr 3 a b (Int32.toInt64 (nI (zn a 64))) (Int32.toInt64 (nI (zn b 64))) := by
  unfold zcr
  have h1 := zn_le a 64
  have h2 := zn_le b 64
  have e1 := nI_l64 (n := zn a 64) (by omega)
  have e2 := nI_l64 (n := zn b 64) (by omega)
  have h3 := zw_b a
  have h4 := zw_b b
  by_cases h : Int32.toInt64 (nI (zn a 64)) = Int32.toInt64 (nI (zn b 64))
  · rw [if_pos ⟨h, Or.inl rfl⟩]
    rw [h, e2] at e1
    refine zg_eq ?_ ?_ <;> (rw [zr_3, zr_3]; omega)
  · rw [if_neg (fun q => h q.1)]
    have hne : zn a 64 ≠ zn b 64 := fun q => h (by rw [q])
    rw [e1, e2]
    refine zg_eq ?_ ?_ <;> (rw [zr_3, zr_3]; omega)
theorem zcr_4 (a b : Int64) : zcr 4 a b (a &&& 1) (b &&& 1) := by
  unfold zcr
  rw [if_neg (by omega), zx_and1, zx_and1]
  rfl
theorem zcr_5 (a b : Int64) : zcr 5 a b (a &&& 255) (b &&& 255) := by
  unfold zcr
  rw [if_neg (by omega), zx_and255, zx_and255]
  rfl
theorem zcr_6 {a b x y : Int64} (hx : x.toInt = -(b.toInt.natAbs : Int)) (hy : y.toInt = -(a.toInt.natAbs : Int)) : zcr 6 a b x y := by
  unfold zcr
  have h3 := zw_b a
  have h4 := zw_b b
  by_cases h : x = y
  · rw [if_pos ⟨h, Or.inr rfl⟩]
    subst h
    refine zg_eq ?_ ?_ <;> (rw [zr_6, zr_6]; omega)
  · rw [if_neg (fun q => h q.1)]
    have hne : x.toInt ≠ y.toInt := fun q => h (Int64.toInt_inj.mp q)
    refine zg_eq ?_ ?_ <;> (rw [zr_6, zr_6]; omega)
theorem zcr_7 {a b d x y : Int64} (hd : d = (a ^^^ b) &&& -(a ^^^ b)) (hx : x = if a &&& d = 0 then 0 else 1) (hy : y = if b &&& d = 0 then 0 else 1) : zcr 7 a b x y := by
  unfold zcr
  rw [if_neg (by omega)]
  rcases zo7 hd with ⟨h1, h2, h3⟩ | ⟨h1, h2, h3⟩ | ⟨h1, h2, h3⟩
  · subst h1
    rw [hx, hy]
    refine zg_eq ?_ ?_ <;> (simp only [zr_7]; omega)
  · rw [if_pos h2] at hx
    rw [if_neg h3] at hy
    subst hx
    subst hy
    refine zg_eq ?_ ?_
    · exact ⟨fun _ => by rw [zr_7, zr_7]; omega, fun _ => by decide⟩
    · exact ⟨fun q => absurd q (by decide), fun q => by rw [zr_7, zr_7] at q; omega⟩
  · rw [if_neg h2] at hx
    rw [if_pos h3] at hy
    subst hx
    subst hy
    refine zg_eq ?_ ?_
    · exact ⟨fun q => absurd q (by decide), fun q => by rw [zr_7, zr_7] at q; omega⟩
    · exact ⟨fun _ => by rw [zr_7, zr_7]; omega, fun _ => by decide⟩
set_option maxHeartbeats 4000000 in
set_option maxRecDepth 100000 in
theorem ct_jL_compare (l : Launch) (g : YG) (S : YS) (a b : Int64) : yC l mn_jL_compare mb_jL_compare 4 (some .int) 0 g [.long (a), .long (b)] S (fun v S' => v = some (.int (zg a.toInt b.toInt)) ∧ S' = S) := by
  refine yC_of (by decide) (Nat.le_of_ble_eq_true rfl) ?_
  intro o hl hg hB0 hE
  subst hl
  subst hg
  have hB : yB o mb_jL_compare "java/lang/Long" := hB0
  have hm := hE.1
  show yW o (S) 0 [(0, .long (a)), (2, .long (b))] []
  refine y_lload_n (pc' := 1) hB dc_jL_compare_0 rfl rfl 0 rfl ?_
  refine y_lload_n (pc' := 2) hB dc_jL_compare_1 rfl rfl 1 rfl ?_
  refine y_lcmp (pc' := 3) hB dc_jL_compare_2 rfl ?_
  refine y_if_ge (x := lg_cmp (a) (b)) (pc' := 6) (tg := 10) hB dc_jL_compare_3 rfl rfl (fun h => ?_) (fun h => ?_)
  · rw [lg_ge] at h
    refine y_lload_n (pc' := 11) hB dc_jL_compare_10 rfl rfl 0 rfl ?_
    refine y_lload_n (pc' := 12) hB dc_jL_compare_11 rfl rfl 1 rfl ?_
    refine y_lcmp (pc' := 13) hB dc_jL_compare_12 rfl ?_
    refine y_if_ne (x := lg_cmp (a) (b)) (pc' := 16) (tg := 20) hB dc_jL_compare_13 rfl rfl (fun h2 => ?_) (fun h2 => ?_)
    · rw [lg_0] at h2
      have h3 : a.toInt ≠ b.toInt := fun q => h2 (Int64.toInt_inj.mp q)
      refine y_iconst (v := nI 1) (pc' := 21) hB dc_jL_compare_20 rfl rfl ?_
      refine y_iret hB hE dc_jL_compare_21 ⟨?_, rfl⟩
      unfold zg
      rw [if_neg (by omega), if_pos (by omega)]
      rfl
    · rw [lg_0] at h2
      subst h2
      refine y_iconst (v := nI 0) (pc' := 17) hB dc_jL_compare_16 rfl rfl ?_
      refine y_goto (tg := 21) hB dc_jL_compare_17 rfl ?_
      refine y_iret hB hE dc_jL_compare_21 ⟨?_, rfl⟩
      unfold zg
      rw [if_neg (by omega), if_neg (by omega)]
      rfl
  · rw [lg_ge] at h
    refine y_iconst (v := -1) (pc' := 7) hB dc_jL_compare_6 rfl rfl ?_
    refine y_goto (tg := 21) hB dc_jL_compare_7 rfl ?_
    refine y_iret hB hE dc_jL_compare_21 ⟨?_, rfl⟩
    unfold zg
    rw [if_pos (by omega)]
set_option maxHeartbeats 4000000 in
set_option maxRecDepth 100000 in
theorem ct_jI_compare (l : Launch) (g : YG) (S : YS) (a b : Int32) : yC l mn_jI_compare mb_jI_compare 2 (some .int) 0 g [.int (a), .int (b)] S (fun v S' => v = some (.int (zg a.toInt b.toInt)) ∧ S' = S) := by
  refine yC_of (by decide) (Nat.le_of_ble_eq_true rfl) ?_
  intro o hl hg hB0 hE
  subst hl
  subst hg
  have hB : yB o mb_jI_compare "java/lang/Integer" := hB0
  have hm := hE.1
  show yW o (S) 0 [(0, .int (a)), (1, .int (b))] []
  refine y_iload_n (pc' := 1) hB dc_jI_compare_0 rfl rfl 0 rfl ?_
  refine y_iload_n (pc' := 2) hB dc_jI_compare_1 rfl rfl 1 rfl ?_
  refine y_icmp_ge (x := a) (y := b) (pc' := 5) (tg := 9) hB dc_jI_compare_2 rfl rfl (fun h => ?_) (fun h => ?_)
  · rw [Int32.le_iff_toInt_le] at h
    refine y_iload_n (pc' := 10) hB dc_jI_compare_9 rfl rfl 0 rfl ?_
    refine y_iload_n (pc' := 11) hB dc_jI_compare_10 rfl rfl 1 rfl ?_
    refine y_icmp_ne (x := a) (y := b) (pc' := 14) (tg := 18) hB dc_jI_compare_11 rfl rfl (fun h2 => ?_) (fun h2 => ?_)
    · have h3 : a.toInt ≠ b.toInt := fun q => h2 (Int32.toInt_inj.mp q)
      refine y_iconst (v := nI 1) (pc' := 19) hB dc_jI_compare_18 rfl rfl ?_
      refine y_iret hB hE dc_jI_compare_19 ⟨?_, rfl⟩
      unfold zg
      rw [if_neg (by omega), if_pos (by omega)]
      rfl
    · subst h2
      refine y_iconst (v := nI 0) (pc' := 15) hB dc_jI_compare_14 rfl rfl ?_
      refine y_goto (tg := 19) hB dc_jI_compare_15 rfl ?_
      refine y_iret hB hE dc_jI_compare_19 ⟨?_, rfl⟩
      unfold zg
      rw [if_neg (by omega), if_neg (by omega)]
      rfl
  · rw [Int32.le_iff_toInt_le] at h
    refine y_iconst (v := -1) (pc' := 6) hB dc_jI_compare_5 rfl rfl ?_
    refine y_goto (tg := 19) hB dc_jI_compare_6 rfl ?_
    refine y_iret hB hE dc_jI_compare_19 ⟨?_, rfl⟩
    unfold zg
    rw [if_pos (by omega)]
set_option maxHeartbeats 4000000 in
set_option maxRecDepth 100000 in
theorem ct_J_compareKeys (l : Launch) (g : YG) (S : YS) (od : Nat) (ho : od < 8) (a b : Int64) : yC l mn_J_compareKeys mb_J_compareKeys 11 (some .int) 1 g [.int (nI (od)), .long (a), .long (b)] S (fun v S' => v = some (.int (zg (zr od a) (zr od b))) ∧ S' = S) := by
  refine yC_of (by decide) (Nat.le_of_ble_eq_true rfl) ?_
  intro o hl hg hB0 hE
  subst hl
  subst hg
  have hB : yB o mb_J_compareKeys "OrderBench$Judge" := hB0
  have hm := hE.1
  show yW o (S) 0 [(0, .int (nI (od))), (1, .long (a)), (3, .long (b))] []
  have tail : ∀ x y : Int64, zcr od a b x y → yW o S 197 [(7, .long (y)), (5, .long (x)), (0, .int (nI (od))), (1, .long (a)), (3, .long (b))] [] := by
    intro x y hc
    have fin : ∀ x y : Int64, zg x.toInt y.toInt = zg (zr od a) (zr od b) → yW o S 222 [(7, .long (y)), (5, .long (x)), (0, .int (nI (od))), (1, .long (a)), (3, .long (b))] [] := by
      intro x y hc
      refine y_lload (pc' := 224) hB dc_J_compareKeys_222 rfl 1 rfl ?_
      refine y_lload (pc' := 226) hB dc_J_compareKeys_224 rfl 0 rfl ?_
      refine y_lcmp (pc' := 227) hB dc_J_compareKeys_226 rfl ?_
      refine y_if_ge (x := lg_cmp (x) (y)) (pc' := 230) (tg := 234) hB dc_J_compareKeys_227 rfl rfl (fun h => ?_) (fun h => ?_)
      · rw [lg_ge] at h
        refine y_lload (pc' := 236) hB dc_J_compareKeys_234 rfl 1 rfl ?_
        refine y_lload (pc' := 238) hB dc_J_compareKeys_236 rfl 0 rfl ?_
        refine y_lcmp (pc' := 239) hB dc_J_compareKeys_238 rfl ?_
        refine y_if_le (x := lg_cmp (x) (y)) (pc' := 242) (tg := 246) hB dc_J_compareKeys_239 rfl rfl (fun h2 => ?_) (fun h2 => ?_)
        · rw [lg_le] at h2
          refine y_iconst (v := nI 0) (pc' := 247) hB dc_J_compareKeys_246 rfl rfl ?_
          refine y_iret hB hE dc_J_compareKeys_247 ⟨?_, rfl⟩
          rw [← hc]
          unfold zg
          rw [if_neg (by omega), if_neg (by omega)]
          rfl
        · rw [lg_le] at h2
          refine y_iconst (v := nI 1) (pc' := 243) hB dc_J_compareKeys_242 rfl rfl ?_
          refine y_goto (tg := 247) hB dc_J_compareKeys_243 rfl ?_
          refine y_iret hB hE dc_J_compareKeys_247 ⟨?_, rfl⟩
          rw [← hc]
          unfold zg
          rw [if_neg (by omega), if_pos (by omega)]
          rfl
      · rw [lg_ge] at h
        refine y_iconst (v := -1) (pc' := 231) hB dc_J_compareKeys_230 rfl rfl ?_
        refine y_goto (tg := 247) hB dc_J_compareKeys_231 rfl ?_
        refine y_iret hB hE dc_J_compareKeys_247 ⟨?_, rfl⟩
        rw [← hc]
        unfold zg
        rw [if_pos (by omega)]
    unfold zcr at hc
    refine y_lload (pc' := 199) hB dc_J_compareKeys_197 rfl 1 rfl ?_
    refine y_lload (pc' := 201) hB dc_J_compareKeys_199 rfl 0 rfl ?_
    refine y_lcmp (pc' := 202) hB dc_J_compareKeys_201 rfl ?_
    refine y_if_ne (x := lg_cmp (x) (y)) (pc' := 205) (tg := 222) hB dc_J_compareKeys_202 rfl rfl (fun h => ?_) (fun h => ?_)
    · rw [lg_0] at h
      rw [if_neg (fun q => h q.1)] at hc
      exact fin x y hc
    · rw [lg_0] at h
      refine y_iload_n (pc' := 206) hB dc_J_compareKeys_205 rfl rfl 2 rfl ?_
      refine y_iconst (v := nI 3) (pc' := 207) hB dc_J_compareKeys_206 rfl rfl ?_
      refine n_icmp_eq (pc' := 210) (tg := 216) hB dc_J_compareKeys_207 rfl rfl (by omega) (by omega) (fun h2 => ?_) (fun h2 => ?_)
      · refine y_lload_n (pc' := 217) hB dc_J_compareKeys_216 rfl rfl 3 rfl ?_
        refine y_lstore (pc' := 219) (lv' := [(5, .long (a)), (7, .long (y)), (0, .int (nI (od))), (1, .long (a)), (3, .long (b))]) hB hm dc_J_compareKeys_217 rfl (by decide) rfl ?_
        refine y_lload_n (pc' := 220) hB dc_J_compareKeys_219 rfl rfl 4 rfl ?_
        refine y_lstore (pc' := 222) (lv' := [(7, .long (b)), (5, .long (a)), (0, .int (nI (od))), (1, .long (a)), (3, .long (b))]) hB hm dc_J_compareKeys_220 rfl (by decide) rfl ?_
        rw [if_pos ⟨h, by omega⟩] at hc
        exact fin a b hc
      · refine y_iload_n (pc' := 211) hB dc_J_compareKeys_210 rfl rfl 2 rfl ?_
        refine y_bipush (v := nI 6) (pc' := 213) hB dc_J_compareKeys_211 rfl (by decide) ?_
        refine n_icmp_ne (pc' := 216) (tg := 222) hB dc_J_compareKeys_213 rfl rfl (by omega) (by omega) (fun h3 => ?_) (fun h3 => ?_)
        · rw [if_neg (fun q => by omega)] at hc
          exact fin x y hc
        · refine y_lload_n (pc' := 217) hB dc_J_compareKeys_216 rfl rfl 3 rfl ?_
          refine y_lstore (pc' := 219) (lv' := [(5, .long (a)), (7, .long (y)), (0, .int (nI (od))), (1, .long (a)), (3, .long (b))]) hB hm dc_J_compareKeys_217 rfl (by decide) rfl ?_
          refine y_lload_n (pc' := 220) hB dc_J_compareKeys_219 rfl rfl 4 rfl ?_
          refine y_lstore (pc' := 222) (lv' := [(7, .long (b)), (5, .long (a)), (0, .int (nI (od))), (1, .long (a)), (3, .long (b))]) hB hm dc_J_compareKeys_220 rfl (by decide) rfl ?_
          rw [if_pos ⟨h, by omega⟩] at hc
          exact fin a b hc
  refine y_lload_n (pc' := 1) hB dc_J_compareKeys_0 rfl rfl 1 rfl ?_
  refine y_lstore (pc' := 3) (lv' := [(5, .long (a)), (0, .int (nI (od))), (1, .long (a)), (3, .long (b))]) hB hm dc_J_compareKeys_1 rfl (by decide) rfl ?_
  refine y_lload_n (pc' := 4) hB dc_J_compareKeys_3 rfl rfl 3 rfl ?_
  refine y_lstore (pc' := 6) (lv' := [(7, .long (b)), (5, .long (a)), (0, .int (nI (od))), (1, .long (a)), (3, .long (b))]) hB hm dc_J_compareKeys_4 rfl (by decide) rfl ?_
  refine y_iload_n (pc' := 7) hB dc_J_compareKeys_6 rfl rfl 2 rfl ?_
  have hcase : od = 0 ∨ od = 1 ∨ od = 2 ∨ od = 3 ∨ od = 4 ∨ od = 5 ∨ od = 6 ∨ od = 7 := by omega
  rcases hcase with rfl | rfl | rfl | rfl | rfl | rfl | rfl | rfl
  · refine y_tableOut (tg := 197) hB dc_J_compareKeys_7 (Or.inl (by decide)) rfl ?_
    exact tail a b (zcr_0 a b)
  · refine y_tableIn (tg := 48) (off := 41) hB dc_J_compareKeys_7 (by decide) (by decide) (by decide) rfl ?_
    refine y_lload_n (pc' := 49) hB dc_J_compareKeys_48 rfl rfl 4 rfl ?_
    refine y_lstore (pc' := 51) (lv' := [(5, .long (b)), (7, .long (b)), (0, .int (nI (1))), (1, .long (a)), (3, .long (b))]) hB hm dc_J_compareKeys_49 rfl (by decide) rfl ?_
    refine y_lload_n (pc' := 52) hB dc_J_compareKeys_51 rfl rfl 3 rfl ?_
    refine y_lstore (pc' := 54) (lv' := [(7, .long (a)), (5, .long (b)), (0, .int (nI (1))), (1, .long (a)), (3, .long (b))]) hB hm dc_J_compareKeys_52 rfl (by decide) rfl ?_
    refine y_goto (tg := 197) hB dc_J_compareKeys_54 rfl ?_
    exact tail b a (zcr_1 a b)
  · refine y_tableIn (tg := 57) (off := 50) hB dc_J_compareKeys_7 (by decide) (by decide) (by decide) rfl ?_
    refine y_lload_n (pc' := 58) hB dc_J_compareKeys_57 rfl rfl 3 rfl ?_
    refine y_ldc2 (v := (-9223372036854775808)) (pc' := 61) hB dc_J_compareKeys_58 rfl q_382 ?_
    refine y_lxor (v := a ^^^ ((-9223372036854775808))) (pc' := 62) hB dc_J_compareKeys_61 rfl rfl ?_
    refine y_lstore (pc' := 64) (lv' := [(5, .long (a ^^^ ((-9223372036854775808)))), (7, .long (b)), (0, .int (nI (2))), (1, .long (a)), (3, .long (b))]) hB hm dc_J_compareKeys_62 rfl (by decide) rfl ?_
    refine y_lload_n (pc' := 65) hB dc_J_compareKeys_64 rfl rfl 4 rfl ?_
    refine y_ldc2 (v := (-9223372036854775808)) (pc' := 68) hB dc_J_compareKeys_65 rfl q_382 ?_
    refine y_lxor (v := b ^^^ ((-9223372036854775808))) (pc' := 69) hB dc_J_compareKeys_68 rfl rfl ?_
    refine y_lstore (pc' := 71) (lv' := [(7, .long (b ^^^ ((-9223372036854775808)))), (5, .long (a ^^^ ((-9223372036854775808)))), (0, .int (nI (2))), (1, .long (a)), (3, .long (b))]) hB hm dc_J_compareKeys_69 rfl (by decide) rfl ?_
    refine y_goto (tg := 197) hB dc_J_compareKeys_71 rfl ?_
    exact tail _ _ (zcr_2 a b)
  · refine y_tableIn (tg := 74) (off := 67) hB dc_J_compareKeys_7 (by decide) (by decide) (by decide) rfl ?_
    refine y_lload_n (pc' := 75) hB dc_J_compareKeys_74 rfl rfl 3 rfl ?_
    refine y_callS (As := [.long (a)]) (rest := []) (pc' := 78) hB hE (ct_jL_bitCount o.l o.G S a) mm_jL_bitCount q_383 q_384 dc_J_compareKeys_75 rfl (by decide) rfl rfl (by decide) (fun v S' hpost => ?_)
    obtain ⟨rfl, hSS⟩ := hpost
    rw [hSS]
    clear hSS S'
    show yW o (S) 78 [(7, .long (b)), (5, .long (a)), (0, .int (nI (3))), (1, .long (a)), (3, .long (b))] [.int (nI (zn a 64))]
    refine y_i2l (v := Int32.toInt64 (nI (zn a 64))) (pc' := 79) hB dc_J_compareKeys_78 rfl rfl ?_
    refine y_lstore (pc' := 81) (lv' := [(5, .long (Int32.toInt64 (nI (zn a 64)))), (7, .long (b)), (0, .int (nI (3))), (1, .long (a)), (3, .long (b))]) hB hm dc_J_compareKeys_79 rfl (by decide) rfl ?_
    refine y_lload_n (pc' := 82) hB dc_J_compareKeys_81 rfl rfl 4 rfl ?_
    refine y_callS (As := [.long (b)]) (rest := []) (pc' := 85) hB hE (ct_jL_bitCount o.l o.G S b) mm_jL_bitCount q_383 q_384 dc_J_compareKeys_82 rfl (by decide) rfl rfl (by decide) (fun v S' hpost => ?_)
    obtain ⟨rfl, hSS⟩ := hpost
    rw [hSS]
    clear hSS S'
    show yW o (S) 85 [(5, .long (Int32.toInt64 (nI (zn a 64)))), (7, .long (b)), (0, .int (nI (3))), (1, .long (a)), (3, .long (b))] [.int (nI (zn b 64))]
    refine y_i2l (v := Int32.toInt64 (nI (zn b 64))) (pc' := 86) hB dc_J_compareKeys_85 rfl rfl ?_
    refine y_lstore (pc' := 88) (lv' := [(7, .long (Int32.toInt64 (nI (zn b 64)))), (5, .long (Int32.toInt64 (nI (zn a 64)))), (0, .int (nI (3))), (1, .long (a)), (3, .long (b))]) hB hm dc_J_compareKeys_86 rfl (by decide) rfl ?_
    refine y_goto (tg := 197) hB dc_J_compareKeys_88 rfl ?_
    exact tail _ _ (zcr_3 a b)
  · refine y_tableIn (tg := 91) (off := 84) hB dc_J_compareKeys_7 (by decide) (by decide) (by decide) rfl ?_
    refine y_lload_n (pc' := 92) hB dc_J_compareKeys_91 rfl rfl 3 rfl ?_
    refine y_lconst (v := 1) (pc' := 93) hB dc_J_compareKeys_92 rfl rfl ?_
    refine y_land (v := a &&& 1) (pc' := 94) hB dc_J_compareKeys_93 rfl rfl ?_
    refine y_lstore (pc' := 96) (lv' := [(5, .long (a &&& 1)), (7, .long (b)), (0, .int (nI (4))), (1, .long (a)), (3, .long (b))]) hB hm dc_J_compareKeys_94 rfl (by decide) rfl ?_
    refine y_lload_n (pc' := 97) hB dc_J_compareKeys_96 rfl rfl 4 rfl ?_
    refine y_lconst (v := 1) (pc' := 98) hB dc_J_compareKeys_97 rfl rfl ?_
    refine y_land (v := b &&& 1) (pc' := 99) hB dc_J_compareKeys_98 rfl rfl ?_
    refine y_lstore (pc' := 101) (lv' := [(7, .long (b &&& 1)), (5, .long (a &&& 1)), (0, .int (nI (4))), (1, .long (a)), (3, .long (b))]) hB hm dc_J_compareKeys_99 rfl (by decide) rfl ?_
    refine y_goto (tg := 197) hB dc_J_compareKeys_101 rfl ?_
    exact tail _ _ (zcr_4 a b)
  · refine y_tableIn (tg := 104) (off := 97) hB dc_J_compareKeys_7 (by decide) (by decide) (by decide) rfl ?_
    refine y_lload_n (pc' := 105) hB dc_J_compareKeys_104 rfl rfl 3 rfl ?_
    refine y_ldc2 (v := 255) (pc' := 108) hB dc_J_compareKeys_105 rfl q_389 ?_
    refine y_land (v := a &&& 255) (pc' := 109) hB dc_J_compareKeys_108 rfl rfl ?_
    refine y_lstore (pc' := 111) (lv' := [(5, .long (a &&& 255)), (7, .long (b)), (0, .int (nI (5))), (1, .long (a)), (3, .long (b))]) hB hm dc_J_compareKeys_109 rfl (by decide) rfl ?_
    refine y_lload_n (pc' := 112) hB dc_J_compareKeys_111 rfl rfl 4 rfl ?_
    refine y_ldc2 (v := 255) (pc' := 115) hB dc_J_compareKeys_112 rfl q_389 ?_
    refine y_land (v := b &&& 255) (pc' := 116) hB dc_J_compareKeys_115 rfl rfl ?_
    refine y_lstore (pc' := 118) (lv' := [(7, .long (b &&& 255)), (5, .long (a &&& 255)), (0, .int (nI (5))), (1, .long (a)), (3, .long (b))]) hB hm dc_J_compareKeys_116 rfl (by decide) rfl ?_
    refine y_goto (tg := 197) hB dc_J_compareKeys_118 rfl ?_
    exact tail _ _ (zcr_5 a b)
  · refine y_tableIn (tg := 121) (off := 114) hB dc_J_compareKeys_7 (by decide) (by decide) (by decide) rfl ?_
    refine y_lload_n (pc' := 122) hB dc_J_compareKeys_121 rfl rfl 4 rfl ?_
    refine y_lconst (v := 0) (pc' := 123) hB dc_J_compareKeys_122 rfl rfl ?_
    refine y_lcmp (pc' := 124) hB dc_J_compareKeys_123 rfl ?_
    refine y_if_ge (x := lg_cmp (b) (0)) (pc' := 127) (tg := 131) hB dc_J_compareKeys_124 rfl rfl (fun h => ?_) (fun h => ?_)
    · rw [lg_ge] at h
      have hz0 : (0 : Int64).toInt = 0 := by decide
      refine y_lload_n (pc' := 132) hB dc_J_compareKeys_131 rfl rfl 4 rfl ?_
      refine y_lneg (v := -(b)) (pc' := 133) hB dc_J_compareKeys_132 rfl rfl ?_
      refine y_lstore (pc' := 135) (lv' := [(5, .long (-(b))), (7, .long (b)), (0, .int (nI (6))), (1, .long (a)), (3, .long (b))]) hB hm dc_J_compareKeys_133 rfl (by decide) rfl ?_
      refine y_lload_n (pc' := 136) hB dc_J_compareKeys_135 rfl rfl 3 rfl ?_
      refine y_lconst (v := 0) (pc' := 137) hB dc_J_compareKeys_136 rfl rfl ?_
      refine y_lcmp (pc' := 138) hB dc_J_compareKeys_137 rfl ?_
      refine y_if_ge (x := lg_cmp (a) (0)) (pc' := 141) (tg := 145) hB dc_J_compareKeys_138 rfl rfl (fun h2 => ?_) (fun h2 => ?_)
      · rw [lg_ge] at h2
        refine y_lload_n (pc' := 146) hB dc_J_compareKeys_145 rfl rfl 3 rfl ?_
        refine y_lneg (v := -(a)) (pc' := 147) hB dc_J_compareKeys_146 rfl rfl ?_
        refine y_lstore (pc' := 149) (lv' := [(7, .long (-(a))), (5, .long (-(b))), (0, .int (nI (6))), (1, .long (a)), (3, .long (b))]) hB hm dc_J_compareKeys_147 rfl (by decide) rfl ?_
        refine y_goto (tg := 197) hB dc_J_compareKeys_149 rfl ?_
        exact tail _ _ (zcr_6 (by rw [zx_neg (by omega)]; omega) (by rw [zx_neg (by omega)]; omega))
      · rw [lg_ge] at h2
        refine y_lload_n (pc' := 142) hB dc_J_compareKeys_141 rfl rfl 3 rfl ?_
        refine y_goto (tg := 147) hB dc_J_compareKeys_142 rfl ?_
        refine y_lstore (pc' := 149) (lv' := [(7, .long (a)), (5, .long (-(b))), (0, .int (nI (6))), (1, .long (a)), (3, .long (b))]) hB hm dc_J_compareKeys_147 rfl (by decide) rfl ?_
        refine y_goto (tg := 197) hB dc_J_compareKeys_149 rfl ?_
        exact tail _ _ (zcr_6 (by rw [zx_neg (by omega)]; omega) (by omega))
    · rw [lg_ge] at h
      have hz0 : (0 : Int64).toInt = 0 := by decide
      refine y_lload_n (pc' := 128) hB dc_J_compareKeys_127 rfl rfl 4 rfl ?_
      refine y_goto (tg := 133) hB dc_J_compareKeys_128 rfl ?_
      refine y_lstore (pc' := 135) (lv' := [(5, .long (b)), (7, .long (b)), (0, .int (nI (6))), (1, .long (a)), (3, .long (b))]) hB hm dc_J_compareKeys_133 rfl (by decide) rfl ?_
      refine y_lload_n (pc' := 136) hB dc_J_compareKeys_135 rfl rfl 3 rfl ?_
      refine y_lconst (v := 0) (pc' := 137) hB dc_J_compareKeys_136 rfl rfl ?_
      refine y_lcmp (pc' := 138) hB dc_J_compareKeys_137 rfl ?_
      refine y_if_ge (x := lg_cmp (a) (0)) (pc' := 141) (tg := 145) hB dc_J_compareKeys_138 rfl rfl (fun h2 => ?_) (fun h2 => ?_)
      · rw [lg_ge] at h2
        refine y_lload_n (pc' := 146) hB dc_J_compareKeys_145 rfl rfl 3 rfl ?_
        refine y_lneg (v := -(a)) (pc' := 147) hB dc_J_compareKeys_146 rfl rfl ?_
        refine y_lstore (pc' := 149) (lv' := [(7, .long (-(a))), (5, .long (b)), (0, .int (nI (6))), (1, .long (a)), (3, .long (b))]) hB hm dc_J_compareKeys_147 rfl (by decide) rfl ?_
        refine y_goto (tg := 197) hB dc_J_compareKeys_149 rfl ?_
        exact tail _ _ (zcr_6 (by omega) (by rw [zx_neg (by omega)]; omega))
      · rw [lg_ge] at h2
        refine y_lload_n (pc' := 142) hB dc_J_compareKeys_141 rfl rfl 3 rfl ?_
        refine y_goto (tg := 147) hB dc_J_compareKeys_142 rfl ?_
        refine y_lstore (pc' := 149) (lv' := [(7, .long (a)), (5, .long (b)), (0, .int (nI (6))), (1, .long (a)), (3, .long (b))]) hB hm dc_J_compareKeys_147 rfl (by decide) rfl ?_
        refine y_goto (tg := 197) hB dc_J_compareKeys_149 rfl ?_
        exact tail _ _ (zcr_6 (by omega) (by omega))
  · refine y_tableIn (tg := 152) (off := 145) hB dc_J_compareKeys_7 (by decide) (by decide) (by decide) rfl ?_
    refine y_lload_n (pc' := 153) hB dc_J_compareKeys_152 rfl rfl 3 rfl ?_
    refine y_lload_n (pc' := 154) hB dc_J_compareKeys_153 rfl rfl 4 rfl ?_
    refine y_lxor (v := a ^^^ b) (pc' := 155) hB dc_J_compareKeys_154 rfl rfl ?_
    refine y_lload_n (pc' := 156) hB dc_J_compareKeys_155 rfl rfl 3 rfl ?_
    refine y_lload_n (pc' := 157) hB dc_J_compareKeys_156 rfl rfl 4 rfl ?_
    refine y_lxor (v := a ^^^ b) (pc' := 158) hB dc_J_compareKeys_157 rfl rfl ?_
    refine y_lneg (v := -(a ^^^ b)) (pc' := 159) hB dc_J_compareKeys_158 rfl rfl ?_
    refine y_land (v := (a ^^^ b) &&& (-(a ^^^ b))) (pc' := 160) hB dc_J_compareKeys_159 rfl rfl ?_
    obtain ⟨d, hd⟩ : ∃ z : Int64, z = (a ^^^ b) &&& (-(a ^^^ b)) := ⟨_, rfl⟩
    refine y_topl (y := d) hd.symm ?_
    refine y_lstore (pc' := 162) (lv' := [(9, .long (d)), (7, .long (b)), (5, .long (a)), (0, .int (nI (7))), (1, .long (a)), (3, .long (b))]) hB hm dc_J_compareKeys_160 rfl (by decide) rfl ?_
    refine y_lload_n (pc' := 163) hB dc_J_compareKeys_162 rfl rfl 4 rfl ?_
    refine y_lload (pc' := 165) hB dc_J_compareKeys_163 rfl 0 rfl ?_
    refine y_land (v := a &&& d) (pc' := 166) hB dc_J_compareKeys_165 rfl rfl ?_
    refine y_lconst (v := 0) (pc' := 167) hB dc_J_compareKeys_166 rfl rfl ?_
    refine y_lcmp (pc' := 168) hB dc_J_compareKeys_167 rfl ?_
    refine y_if_ne (x := lg_cmp (a &&& d) (0)) (pc' := 171) (tg := 175) hB dc_J_compareKeys_168 rfl rfl (fun h => ?_) (fun h => ?_)
    · rw [lg_0] at h
      refine y_lconst (v := 1) (pc' := 176) hB dc_J_compareKeys_175 rfl rfl ?_
      refine y_lstore (pc' := 178) (lv' := [(5, .long (1)), (9, .long (d)), (7, .long (b)), (0, .int (nI (7))), (1, .long (a)), (3, .long (b))]) hB hm dc_J_compareKeys_176 rfl (by decide) rfl ?_
      refine y_lload_n (pc' := 179) hB dc_J_compareKeys_178 rfl rfl 5 rfl ?_
      refine y_lload (pc' := 181) hB dc_J_compareKeys_179 rfl 1 rfl ?_
      refine y_land (v := b &&& d) (pc' := 182) hB dc_J_compareKeys_181 rfl rfl ?_
      refine y_lconst (v := 0) (pc' := 183) hB dc_J_compareKeys_182 rfl rfl ?_
      refine y_lcmp (pc' := 184) hB dc_J_compareKeys_183 rfl ?_
      refine y_if_ne (x := lg_cmp (b &&& d) (0)) (pc' := 187) (tg := 191) hB dc_J_compareKeys_184 rfl rfl (fun h2 => ?_) (fun h2 => ?_)
      · rw [lg_0] at h2
        refine y_lconst (v := 1) (pc' := 192) hB dc_J_compareKeys_191 rfl rfl ?_
        refine y_lstore (pc' := 194) (lv' := [(7, .long (1)), (5, .long (1)), (9, .long (d)), (0, .int (nI (7))), (1, .long (a)), (3, .long (b))]) hB hm dc_J_compareKeys_192 rfl (by decide) rfl ?_
        refine y_goto (tg := 197) hB dc_J_compareKeys_194 rfl ?_
        refine y_sub [0, 1, 3, 4, 5] rfl ?_
        exact tail _ _ (zcr_7 hd (if_neg h).symm (if_neg h2).symm)
      · rw [lg_0] at h2
        refine y_lconst (v := 0) (pc' := 188) hB dc_J_compareKeys_187 rfl rfl ?_
        refine y_goto (tg := 192) hB dc_J_compareKeys_188 rfl ?_
        refine y_lstore (pc' := 194) (lv' := [(7, .long (0)), (5, .long (1)), (9, .long (d)), (0, .int (nI (7))), (1, .long (a)), (3, .long (b))]) hB hm dc_J_compareKeys_192 rfl (by decide) rfl ?_
        refine y_goto (tg := 197) hB dc_J_compareKeys_194 rfl ?_
        refine y_sub [0, 1, 3, 4, 5] rfl ?_
        exact tail _ _ (zcr_7 hd (if_neg h).symm (if_pos h2).symm)
    · rw [lg_0] at h
      refine y_lconst (v := 0) (pc' := 172) hB dc_J_compareKeys_171 rfl rfl ?_
      refine y_goto (tg := 176) hB dc_J_compareKeys_172 rfl ?_
      refine y_lstore (pc' := 178) (lv' := [(5, .long (0)), (9, .long (d)), (7, .long (b)), (0, .int (nI (7))), (1, .long (a)), (3, .long (b))]) hB hm dc_J_compareKeys_176 rfl (by decide) rfl ?_
      refine y_lload_n (pc' := 179) hB dc_J_compareKeys_178 rfl rfl 5 rfl ?_
      refine y_lload (pc' := 181) hB dc_J_compareKeys_179 rfl 1 rfl ?_
      refine y_land (v := b &&& d) (pc' := 182) hB dc_J_compareKeys_181 rfl rfl ?_
      refine y_lconst (v := 0) (pc' := 183) hB dc_J_compareKeys_182 rfl rfl ?_
      refine y_lcmp (pc' := 184) hB dc_J_compareKeys_183 rfl ?_
      refine y_if_ne (x := lg_cmp (b &&& d) (0)) (pc' := 187) (tg := 191) hB dc_J_compareKeys_184 rfl rfl (fun h2 => ?_) (fun h2 => ?_)
      · rw [lg_0] at h2
        refine y_lconst (v := 1) (pc' := 192) hB dc_J_compareKeys_191 rfl rfl ?_
        refine y_lstore (pc' := 194) (lv' := [(7, .long (1)), (5, .long (0)), (9, .long (d)), (0, .int (nI (7))), (1, .long (a)), (3, .long (b))]) hB hm dc_J_compareKeys_192 rfl (by decide) rfl ?_
        refine y_goto (tg := 197) hB dc_J_compareKeys_194 rfl ?_
        refine y_sub [0, 1, 3, 4, 5] rfl ?_
        exact tail _ _ (zcr_7 hd (if_pos h).symm (if_neg h2).symm)
      · rw [lg_0] at h2
        refine y_lconst (v := 0) (pc' := 188) hB dc_J_compareKeys_187 rfl rfl ?_
        refine y_goto (tg := 192) hB dc_J_compareKeys_188 rfl ?_
        refine y_lstore (pc' := 194) (lv' := [(7, .long (0)), (5, .long (0)), (9, .long (d)), (0, .int (nI (7))), (1, .long (a)), (3, .long (b))]) hB hm dc_J_compareKeys_192 rfl (by decide) rfl ?_
        refine y_goto (tg := 197) hB dc_J_compareKeys_194 rfl ?_
        refine y_sub [0, 1, 3, 4, 5] rfl ?_
        exact tail _ _ (zcr_7 hd (if_pos h).symm (if_pos h2).symm)
