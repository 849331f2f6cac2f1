/-! REFERENCE: which comes before -/
theorem dc_M_ones_0 : decode mb_M_ones 0 = .ok (.iconst 0, 1) := by decide +kernel
theorem dc_M_ones_1 : decode mb_M_ones 1 = .ok (.istore_n 2, 1) := by decide +kernel
theorem dc_M_ones_2 : decode mb_M_ones 2 = .ok (.iconst 0, 1) := by decide +kernel
theorem dc_M_ones_3 : decode mb_M_ones 3 = .ok (.istore_n 3, 1) := by decide +kernel
theorem dc_M_ones_4 : decode mb_M_ones 4 = .ok (.iload_n 3, 1) := by decide +kernel
theorem dc_M_ones_5 : decode mb_M_ones 5 = .ok (.bipush 64, 2) := by decide +kernel
theorem dc_M_ones_7 : decode mb_M_ones 7 = .ok (.if_icmp .ge 18, 3) := by decide +kernel
theorem dc_M_ones_10 : decode mb_M_ones 10 = .ok (.iload_n 2, 1) := by decide +kernel
theorem dc_M_ones_11 : decode mb_M_ones 11 = .ok (.lload_n 0, 1) := by decide +kernel
theorem dc_M_ones_12 : decode mb_M_ones 12 = .ok (.iload_n 3, 1) := by decide +kernel
theorem dc_M_ones_13 : decode mb_M_ones 13 = .ok (.lshr, 1) := by decide +kernel
theorem dc_M_ones_14 : decode mb_M_ones 14 = .ok (.lconst 1, 1) := by decide +kernel
theorem dc_M_ones_15 : decode mb_M_ones 15 = .ok (.land, 1) := by decide +kernel
theorem dc_M_ones_16 : decode mb_M_ones 16 = .ok (.l2i, 1) := by decide +kernel
theorem dc_M_ones_17 : decode mb_M_ones 17 = .ok (.iadd, 1) := by decide +kernel
theorem dc_M_ones_18 : decode mb_M_ones 18 = .ok (.istore_n 2, 1) := by decide +kernel
theorem dc_M_ones_19 : decode mb_M_ones 19 = .ok (.iinc 3 1, 3) := by decide +kernel
theorem dc_M_ones_22 : decode mb_M_ones 22 = .ok (.goto (-18), 3) := by decide +kernel
theorem dc_M_ones_25 : decode mb_M_ones 25 = .ok (.iload_n 2, 1) := by decide +kernel
theorem dc_M_ones_26 : decode mb_M_ones 26 = .ok (.ireturn, 1) := by decide +kernel
theorem dc_M_isLess_0 : decode mb_M_isLess 0 = .ok (.lload_n 0, 1) := by decide +kernel
theorem dc_M_isLess_1 : decode mb_M_isLess 1 = .ok (.ldc2_w 33, 3) := by decide +kernel
theorem dc_M_isLess_4 : decode mb_M_isLess 4 = .ok (.ladd, 1) := by decide +kernel
theorem dc_M_isLess_5 : decode mb_M_isLess 5 = .ok (.lload_n 2, 1) := by decide +kernel
theorem dc_M_isLess_6 : decode mb_M_isLess 6 = .ok (.ldc2_w 33, 3) := by decide +kernel
theorem dc_M_isLess_9 : decode mb_M_isLess 9 = .ok (.ladd, 1) := by decide +kernel
theorem dc_M_isLess_10 : decode mb_M_isLess 10 = .ok (.lcmp, 1) := by decide +kernel
theorem dc_M_isLess_11 : decode mb_M_isLess 11 = .ok (.ifCond .ge 7, 3) := by decide +kernel
theorem dc_M_isLess_14 : decode mb_M_isLess 14 = .ok (.iconst 1, 1) := by decide +kernel
theorem dc_M_isLess_15 : decode mb_M_isLess 15 = .ok (.goto 4, 3) := by decide +kernel
theorem dc_M_isLess_18 : decode mb_M_isLess 18 = .ok (.iconst 0, 1) := by decide +kernel
theorem dc_M_isLess_19 : decode mb_M_isLess 19 = .ok (.ireturn, 1) := by decide +kernel
theorem dc_M_sizeOf_0 : decode mb_M_sizeOf 0 = .ok (.lload_n 0, 1) := by decide +kernel
theorem dc_M_sizeOf_1 : decode mb_M_sizeOf 1 = .ok (.lconst 0, 1) := by decide +kernel
theorem dc_M_sizeOf_2 : decode mb_M_sizeOf 2 = .ok (.lcmp, 1) := by decide +kernel
theorem dc_M_sizeOf_3 : decode mb_M_sizeOf 3 = .ok (.ifCond .ge 8, 3) := by decide +kernel
theorem dc_M_sizeOf_6 : decode mb_M_sizeOf 6 = .ok (.lload_n 0, 1) := by decide +kernel
theorem dc_M_sizeOf_7 : decode mb_M_sizeOf 7 = .ok (.lneg, 1) := by decide +kernel
theorem dc_M_sizeOf_8 : decode mb_M_sizeOf 8 = .ok (.goto 4, 3) := by decide +kernel
theorem dc_M_sizeOf_11 : decode mb_M_sizeOf 11 = .ok (.lload_n 0, 1) := by decide +kernel
theorem dc_M_sizeOf_12 : decode mb_M_sizeOf 12 = .ok (.lreturn, 1) := by decide +kernel
theorem dc_M_isFirstByBits_0 : decode mb_M_isFirstByBits 0 = .ok (.iconst 0, 1) := by decide +kernel
theorem dc_M_isFirstByBits_1 : decode mb_M_isFirstByBits 1 = .ok (.istore 4, 2) := by decide +kernel
theorem dc_M_isFirstByBits_3 : decode mb_M_isFirstByBits 3 = .ok (.iload 4, 2) := by decide +kernel
theorem dc_M_isFirstByBits_5 : decode mb_M_isFirstByBits 5 = .ok (.bipush 64, 2) := by decide +kernel
theorem dc_M_isFirstByBits_7 : decode mb_M_isFirstByBits 7 = .ok (.if_icmp .ge 46, 3) := by decide +kernel
theorem dc_M_isFirstByBits_10 : decode mb_M_isFirstByBits 10 = .ok (.lload_n 0, 1) := by decide +kernel
theorem dc_M_isFirstByBits_11 : decode mb_M_isFirstByBits 11 = .ok (.iload 4, 2) := by decide +kernel
theorem dc_M_isFirstByBits_13 : decode mb_M_isFirstByBits 13 = .ok (.lshr, 1) := by decide +kernel
theorem dc_M_isFirstByBits_14 : decode mb_M_isFirstByBits 14 = .ok (.lconst 1, 1) := by decide +kernel
theorem dc_M_isFirstByBits_15 : decode mb_M_isFirstByBits 15 = .ok (.land, 1) := by decide +kernel
theorem dc_M_isFirstByBits_16 : decode mb_M_isFirstByBits 16 = .ok (.lstore 5, 2) := by decide +kernel
theorem dc_M_isFirstByBits_18 : decode mb_M_isFirstByBits 18 = .ok (.lload_n 2, 1) := by decide +kernel
theorem dc_M_isFirstByBits_19 : decode mb_M_isFirstByBits 19 = .ok (.iload 4, 2) := by decide +kernel
theorem dc_M_isFirstByBits_21 : decode mb_M_isFirstByBits 21 = .ok (.lshr, 1) := by decide +kernel
theorem dc_M_isFirstByBits_22 : decode mb_M_isFirstByBits 22 = .ok (.lconst 1, 1) := by decide +kernel
theorem dc_M_isFirstByBits_23 : decode mb_M_isFirstByBits 23 = .ok (.land, 1) := by decide +kernel
theorem dc_M_isFirstByBits_24 : decode mb_M_isFirstByBits 24 = .ok (.lstore 7, 2) := by decide +kernel
theorem dc_M_isFirstByBits_26 : decode mb_M_isFirstByBits 26 = .ok (.lload 5, 2) := by decide +kernel
theorem dc_M_isFirstByBits_28 : decode mb_M_isFirstByBits 28 = .ok (.lload 7, 2) := by decide +kernel
theorem dc_M_isFirstByBits_30 : decode mb_M_isFirstByBits 30 = .ok (.lcmp, 1) := by decide +kernel
theorem dc_M_isFirstByBits_31 : decode mb_M_isFirstByBits 31 = .ok (.ifCond .eq 16, 3) := by decide +kernel
theorem dc_M_isFirstByBits_34 : decode mb_M_isFirstByBits 34 = .ok (.lload 5, 2) := by decide +kernel
theorem dc_M_isFirstByBits_36 : decode mb_M_isFirstByBits 36 = .ok (.lconst 0, 1) := by decide +kernel
theorem dc_M_isFirstByBits_37 : decode mb_M_isFirstByBits 37 = .ok (.lcmp, 1) := by decide +kernel
theorem dc_M_isFirstByBits_38 : decode mb_M_isFirstByBits 38 = .ok (.ifCond .ne 7, 3) := by decide +kernel
theorem dc_M_isFirstByBits_41 : decode mb_M_isFirstByBits 41 = .ok (.iconst 1, 1) := by decide +kernel
theorem dc_M_isFirstByBits_42 : decode mb_M_isFirstByBits 42 = .ok (.goto 4, 3) := by decide +kernel
theorem dc_M_isFirstByBits_45 : decode mb_M_isFirstByBits 45 = .ok (.iconst 0, 1) := by decide +kernel
theorem dc_M_isFirstByBits_46 : decode mb_M_isFirstByBits 46 = .ok (.ireturn, 1) := by decide +kernel
theorem dc_M_isFirstByBits_47 : decode mb_M_isFirstByBits 47 = .ok (.iinc 4 1, 3) := by decide +kernel
theorem dc_M_isFirstByBits_50 : decode mb_M_isFirstByBits 50 = .ok (.goto (-47), 3) := by decide +kernel
theorem dc_M_isFirstByBits_53 : decode mb_M_isFirstByBits 53 = .ok (.iconst 0, 1) := by decide +kernel
theorem dc_M_isFirstByBits_54 : decode mb_M_isFirstByBits 54 = .ok (.ireturn, 1) := by decide +kernel
theorem dc_M_isBefore_0 : decode mb_M_isBefore 0 = .ok (.iload_n 0, 1) := by decide +kernel
theorem dc_M_isBefore_1 : decode mb_M_isBefore 1 = .ok (.tableswitch 181 0 6 #[43, 55, 67, 73, 107, 123, 143], 43) := by decide +kernel
theorem dc_M_isBefore_44 : decode mb_M_isBefore 44 = .ok (.lload_n 1, 1) := by decide +kernel
theorem dc_M_isBefore_45 : decode mb_M_isBefore 45 = .ok (.lload_n 3, 1) := by decide +kernel
theorem dc_M_isBefore_46 : decode mb_M_isBefore 46 = .ok (.lcmp, 1) := by decide +kernel
theorem dc_M_isBefore_47 : decode mb_M_isBefore 47 = .ok (.ifCond .ge 7, 3) := by decide +kernel
theorem dc_M_isBefore_50 : decode mb_M_isBefore 50 = .ok (.iconst 1, 1) := by decide +kernel
theorem dc_M_isBefore_51 : decode mb_M_isBefore 51 = .ok (.goto 4, 3) := by decide +kernel
theorem dc_M_isBefore_54 : decode mb_M_isBefore 54 = .ok (.iconst 0, 1) := by decide +kernel
theorem dc_M_isBefore_55 : decode mb_M_isBefore 55 = .ok (.ireturn, 1) := by decide +kernel
theorem dc_M_isBefore_56 : decode mb_M_isBefore 56 = .ok (.lload_n 3, 1) := by decide +kernel
theorem dc_M_isBefore_57 : decode mb_M_isBefore 57 = .ok (.lload_n 1, 1) := by decide +kernel
theorem dc_M_isBefore_58 : decode mb_M_isBefore 58 = .ok (.lcmp, 1) := by decide +kernel
theorem dc_M_isBefore_59 : decode mb_M_isBefore 59 = .ok (.ifCond .ge 7, 3) := by decide +kernel
theorem dc_M_isBefore_62 : decode mb_M_isBefore 62 = .ok (.iconst 1, 1) := by decide +kernel
theorem dc_M_isBefore_63 : decode mb_M_isBefore 63 = .ok (.goto 4, 3) := by decide +kernel
theorem dc_M_isBefore_66 : decode mb_M_isBefore 66 = .ok (.iconst 0, 1) := by decide +kernel
theorem dc_M_isBefore_67 : decode mb_M_isBefore 67 = .ok (.ireturn, 1) := by decide +kernel
theorem dc_M_isBefore_68 : decode mb_M_isBefore 68 = .ok (.lload_n 1, 1) := by decide +kernel
theorem dc_M_isBefore_69 : decode mb_M_isBefore 69 = .ok (.lload_n 3, 1) := by decide +kernel
theorem dc_M_isBefore_70 : decode mb_M_isBefore 70 = .ok (.invokestatic 35, 3) := by decide +kernel
theorem dc_M_isBefore_73 : decode mb_M_isBefore 73 = .ok (.ireturn, 1) := by decide +kernel
theorem dc_M_isBefore_74 : decode mb_M_isBefore 74 = .ok (.lload_n 1, 1) := by decide +kernel
theorem dc_M_isBefore_75 : decode mb_M_isBefore 75 = .ok (.invokestatic 39, 3) := by decide +kernel
theorem dc_M_isBefore_78 : decode mb_M_isBefore 78 = .ok (.lload_n 3, 1) := by decide +kernel
theorem dc_M_isBefore_79 : decode mb_M_isBefore 79 = .ok (.invokestatic 39, 3) := by decide +kernel
theorem dc_M_isBefore_82 : decode mb_M_isBefore 82 = .ok (.if_icmp .lt 20, 3) := by decide +kernel
theorem dc_M_isBefore_85 : decode mb_M_isBefore 85 = .ok (.lload_n 1, 1) := by decide +kernel
theorem dc_M_isBefore_86 : decode mb_M_isBefore 86 = .ok (.invokestatic 39, 3) := by decide +kernel
theorem dc_M_isBefore_89 : decode mb_M_isBefore 89 = .ok (.lload_n 3, 1) := by decide +kernel
theorem dc_M_isBefore_90 : decode mb_M_isBefore 90 = .ok (.invokestatic 39, 3) := by decide +kernel
theorem dc_M_isBefore_93 : decode mb_M_isBefore 93 = .ok (.if_icmp .ne 13, 3) := by decide +kernel
theorem dc_M_isBefore_96 : decode mb_M_isBefore 96 = .ok (.lload_n 1, 1) := by decide +kernel
theorem dc_M_isBefore_97 : decode mb_M_isBefore 97 = .ok (.lload_n 3, 1) := by decide +kernel
theorem dc_M_isBefore_98 : decode mb_M_isBefore 98 = .ok (.lcmp, 1) := by decide +kernel
theorem dc_M_isBefore_99 : decode mb_M_isBefore 99 = .ok (.ifCond .ge 7, 3) := by decide +kernel
theorem dc_M_isBefore_102 : decode mb_M_isBefore 102 = .ok (.iconst 1, 1) := by decide +kernel
theorem dc_M_isBefore_103 : decode mb_M_isBefore 103 = .ok (.goto 4, 3) := by decide +kernel
theorem dc_M_isBefore_106 : decode mb_M_isBefore 106 = .ok (.iconst 0, 1) := by decide +kernel
theorem dc_M_isBefore_107 : decode mb_M_isBefore 107 = .ok (.ireturn, 1) := by decide +kernel
theorem dc_M_isBefore_108 : decode mb_M_isBefore 108 = .ok (.lload_n 1, 1) := by decide +kernel
theorem dc_M_isBefore_109 : decode mb_M_isBefore 109 = .ok (.lconst 1, 1) := by decide +kernel
theorem dc_M_isBefore_110 : decode mb_M_isBefore 110 = .ok (.land, 1) := by decide +kernel
theorem dc_M_isBefore_111 : decode mb_M_isBefore 111 = .ok (.lload_n 3, 1) := by decide +kernel
theorem dc_M_isBefore_112 : decode mb_M_isBefore 112 = .ok (.lconst 1, 1) := by decide +kernel
theorem dc_M_isBefore_113 : decode mb_M_isBefore 113 = .ok (.land, 1) := by decide +kernel
theorem dc_M_isBefore_114 : decode mb_M_isBefore 114 = .ok (.lcmp, 1) := by decide +kernel
theorem dc_M_isBefore_115 : decode mb_M_isBefore 115 = .ok (.ifCond .ge 7, 3) := by decide +kernel
theorem dc_M_isBefore_118 : decode mb_M_isBefore 118 = .ok (.iconst 1, 1) := by decide +kernel
theorem dc_M_isBefore_119 : decode mb_M_isBefore 119 = .ok (.goto 4, 3) := by decide +kernel
theorem dc_M_isBefore_122 : decode mb_M_isBefore 122 = .ok (.iconst 0, 1) := by decide +kernel
theorem dc_M_isBefore_123 : decode mb_M_isBefore 123 = .ok (.ireturn, 1) := by decide +kernel
theorem dc_M_isBefore_124 : decode mb_M_isBefore 124 = .ok (.lload_n 1, 1) := by decide +kernel
theorem dc_M_isBefore_125 : decode mb_M_isBefore 125 = .ok (.ldc2_w 43, 3) := by decide +kernel
theorem dc_M_isBefore_128 : decode mb_M_isBefore 128 = .ok (.land, 1) := by decide +kernel
theorem dc_M_isBefore_129 : decode mb_M_isBefore 129 = .ok (.lload_n 3, 1) := by decide +kernel
theorem dc_M_isBefore_130 : decode mb_M_isBefore 130 = .ok (.ldc2_w 43, 3) := by decide +kernel
theorem dc_M_isBefore_133 : decode mb_M_isBefore 133 = .ok (.land, 1) := by decide +kernel
theorem dc_M_isBefore_134 : decode mb_M_isBefore 134 = .ok (.lcmp, 1) := by decide +kernel
theorem dc_M_isBefore_135 : decode mb_M_isBefore 135 = .ok (.ifCond .ge 7, 3) := by decide +kernel
theorem dc_M_isBefore_138 : decode mb_M_isBefore 138 = .ok (.iconst 1, 1) := by decide +kernel
theorem dc_M_isBefore_139 : decode mb_M_isBefore 139 = .ok (.goto 4, 3) := by decide +kernel
theorem dc_M_isBefore_142 : decode mb_M_isBefore 142 = .ok (.iconst 0, 1) := by decide +kernel
theorem dc_M_isBefore_143 : decode mb_M_isBefore 143 = .ok (.ireturn, 1) := by decide +kernel
theorem dc_M_isBefore_144 : decode mb_M_isBefore 144 = .ok (.lload_n 1, 1) := by decide +kernel
theorem dc_M_isBefore_145 : decode mb_M_isBefore 145 = .ok (.invokestatic 45, 3) := by decide +kernel
theorem dc_M_isBefore_148 : decode mb_M_isBefore 148 = .ok (.lload_n 3, 1) := by decide +kernel
theorem dc_M_isBefore_149 : decode mb_M_isBefore 149 = .ok (.invokestatic 45, 3) := by decide +kernel
theorem dc_M_isBefore_152 : decode mb_M_isBefore 152 = .ok (.invokestatic 35, 3) := by decide +kernel
theorem dc_M_isBefore_155 : decode mb_M_isBefore 155 = .ok (.ifCond .ne 21, 3) := by decide +kernel
theorem dc_M_isBefore_158 : decode mb_M_isBefore 158 = .ok (.lload_n 1, 1) := by decide +kernel
theorem dc_M_isBefore_159 : decode mb_M_isBefore 159 = .ok (.invokestatic 45, 3) := by decide +kernel
theorem dc_M_isBefore_162 : decode mb_M_isBefore 162 = .ok (.lload_n 3, 1) := by decide +kernel
theorem dc_M_isBefore_163 : decode mb_M_isBefore 163 = .ok (.invokestatic 45, 3) := by decide +kernel
theorem dc_M_isBefore_166 : decode mb_M_isBefore 166 = .ok (.lcmp, 1) := by decide +kernel
theorem dc_M_isBefore_167 : decode mb_M_isBefore 167 = .ok (.ifCond .ne 13, 3) := by decide +kernel
theorem dc_M_isBefore_170 : decode mb_M_isBefore 170 = .ok (.lload_n 1, 1) := by decide +kernel
theorem dc_M_isBefore_171 : decode mb_M_isBefore 171 = .ok (.lload_n 3, 1) := by decide +kernel
theorem dc_M_isBefore_172 : decode mb_M_isBefore 172 = .ok (.lcmp, 1) := by decide +kernel
theorem dc_M_isBefore_173 : decode mb_M_isBefore 173 = .ok (.ifCond .ge 7, 3) := by decide +kernel
theorem dc_M_isBefore_176 : decode mb_M_isBefore 176 = .ok (.iconst 1, 1) := by decide +kernel
theorem dc_M_isBefore_177 : decode mb_M_isBefore 177 = .ok (.goto 4, 3) := by decide +kernel
theorem dc_M_isBefore_180 : decode mb_M_isBefore 180 = .ok (.iconst 0, 1) := by decide +kernel
theorem dc_M_isBefore_181 : decode mb_M_isBefore 181 = .ok (.ireturn, 1) := by decide +kernel
theorem dc_M_isBefore_182 : decode mb_M_isBefore 182 = .ok (.lload_n 1, 1) := by decide +kernel
theorem dc_M_isBefore_183 : decode mb_M_isBefore 183 = .ok (.lload_n 3, 1) := by decide +kernel
theorem dc_M_isBefore_184 : decode mb_M_isBefore 184 = .ok (.invokestatic 49, 3) := by decide +kernel
theorem dc_M_isBefore_187 : decode mb_M_isBefore 187 = .ok (.ireturn, 1) := by decide +kernel
theorem dc_M_areAlike_0 : decode mb_M_areAlike 0 = .ok (.iload_n 0, 1) := by decide +kernel
theorem dc_M_areAlike_1 : decode mb_M_areAlike 1 = .ok (.lload_n 1, 1) := by decide +kernel
theorem dc_M_areAlike_2 : decode mb_M_areAlike 2 = .ok (.lload_n 3, 1) := by decide +kernel
theorem dc_M_areAlike_3 : decode mb_M_areAlike 3 = .ok (.invokestatic 52, 3) := by decide +kernel
theorem dc_M_areAlike_6 : decode mb_M_areAlike 6 = .ok (.ifCond .ne 16, 3) := by decide +kernel
theorem dc_M_areAlike_9 : decode mb_M_areAlike 9 = .ok (.iload_n 0, 1) := by decide +kernel
theorem dc_M_areAlike_10 : decode mb_M_areAlike 10 = .ok (.lload_n 3, 1) := by decide +kernel
theorem dc_M_areAlike_11 : decode mb_M_areAlike 11 = .ok (.lload_n 1, 1) := by decide +kernel
theorem dc_M_areAlike_12 : decode mb_M_areAlike 12 = .ok (.invokestatic 52, 3) := by decide +kernel
theorem dc_M_areAlike_15 : decode mb_M_areAlike 15 = .ok (.ifCond .ne 7, 3) := by decide +kernel
theorem dc_M_areAlike_18 : decode mb_M_areAlike 18 = .ok (.iconst 1, 1) := by decide +kernel
theorem dc_M_areAlike_19 : decode mb_M_areAlike 19 = .ok (.goto 4, 3) := by decide +kernel
theorem dc_M_areAlike_22 : decode mb_M_areAlike 22 = .ok (.iconst 0, 1) := by decide +kernel
theorem dc_M_areAlike_23 : decode mb_M_areAlike 23 = .ok (.ireturn, 1) := by decide +kernel
/-- bit k of a long, as a long -/
def zbl (x : Int64) (k : Nat) : Int64 := if x.toBitVec.getLsbD k then 1 else 0
theorem zsh_k : ∀ k, k < 64 → ((Int32.toInt64 (nI k) &&& 63).toBitVec.smod 64).toNat = k := by decide
theorem zbl_of (x : Int64) {k : Nat} (hk : k < 64) : (x >>> (Int32.toInt64 (nI k) &&& 63)) &&& 1 = zbl x k := by
  apply Int64.toBitVec_inj.mp
  have e : (x >>> (Int32.toInt64 (nI k) &&& 63)).toBitVec = x.toBitVec.sshiftRight k := by
    show x.toBitVec.sshiftRight ((Int32.toInt64 (nI k) &&& 63).toBitVec.smod 64).toNat = _
    rw [zsh_k k hk]
  rw [Int64.toBitVec_and, e]
  apply BitVec.eq_of_getLsbD_eq
  intro i hi
  rw [BitVec.getLsbD_and, BitVec.getLsbD_sshiftRight]
  unfold zbl
  by_cases h0 : i = 0
  · subst h0
    cases hx : x.toBitVec.getLsbD k <;> simp [hx, hk]
  · have h1 : (1 : Int64).toBitVec.getLsbD i = false := by
      show (1#64).getLsbD i = false
      rw [BitVec.getLsbD_one]
      simp [h0]
    rw [h1, Bool.and_false]
    split
    · exact h1.symm
    · show false = (0#64).getLsbD i
      simp
theorem zbl_i (x : Int64) (k : Nat) : Int64.toInt32 (zbl x k) = nI (zb x k) := by
  unfold zbl zb
  split <;> decide
theorem zbl_b {x y : Int64} {k : Nat} : zbl x k = zbl y k ↔ zb x k = zb y k := by
  unfold zbl zb
  split <;> split <;> decide
theorem zbl_0 {x : Int64} {k : Nat} : zbl x k = 0 ↔ zb x k = 0 := by
  unfold zbl zb
  split <;> decide
theorem zadd_sign (x : Int64) : x + (-9223372036854775808) = x ^^^ (-9223372036854775808) := uN_inj (by rw [uN_add, uN_xor, show uN (-9223372036854775808) = 9223372036854775808 by decide])
/-- the size of a key, as its bits -/
def zsz (x : Int64) : Int64 := if x.toInt < 0 then -x else x
theorem zsz_u (x : Int64) : (zu (zsz x) : Int) = (x.toInt.natAbs : Int) := by
  have h1 := uN_lt x
  have h2 := uN_int x
  have h3 : uN (-x) = (18446744073709551616 - uN x) % 18446744073709551616 := UInt64.toNat_neg _
  rw [← uN_zu]
  unfold zsz
  split
  · rename_i h
    rw [h3]
    rw [h2] at h ⊢
    split at h <;> omega
  · rename_i h
    rw [h2] at h ⊢
    split at h <;> omega
set_option maxHeartbeats 4000000 in
set_option maxRecDepth 100000 in
theorem ct_M_ones (l : Launch) (g : YG) (S : YS) (a : Int64) : yC l mn_M_ones mb_M_ones 4 (some .int) 0 g [.long (a)] S (fun v S' => v = some (.int (nI (zn a 64))) ∧ S' = S) := by
  refine yC_of (by decide) (Nat.le_of_ble_eq_true rfl) ?_
  intro o hl hg hB0 hE
  subst hl
  subst hg
  have hB : yB o mb_M_ones "OrderBenchModel" := hB0
  have hm := hE.1
  show yW o (S) 0 [(0, .long (a))] []
  refine y_iconst (v := nI 0) (pc' := 1) hB dc_M_ones_0 rfl rfl ?_
  refine y_istore_n (pc' := 2) (lv' := [(2, .int (nI (0))), (0, .long (a))]) hB hm dc_M_ones_1 rfl rfl (by decide) rfl ?_
  refine y_iconst (v := nI 0) (pc' := 3) hB dc_M_ones_2 rfl rfl ?_
  refine y_istore_n (pc' := 4) (lv' := [(3, .int (nI (0))), (2, .int (nI (0))), (0, .long (a))]) hB hm dc_M_ones_3 rfl rfl (by decide) rfl ?_
  have loop : ∀ (d : Nat) (k : Nat), 64 - k < d → k ≤ 64 → yW o (S) 4 [(3, .int (nI (k))), (2, .int (nI (zn a k))), (0, .long (a))] [] := by
    intro d
    induction d with
    | zero => intro k hd; omega
    | succ d ih =>
      intro k hd h1
      refine y_iload_n (pc' := 5) hB dc_M_ones_4 rfl rfl 0 rfl ?_
      refine y_bipush (v := nI 64) (pc' := 7) hB dc_M_ones_5 rfl (by decide) ?_
      refine n_icmp_ge (pc' := 10) (tg := 25) hB dc_M_ones_7 rfl rfl (by omega) (by omega) (fun b1 => ?_) (fun b1 => ?_)
      · have e : k = 64 := by omega
        subst e
        refine y_iload_n (pc' := 26) hB dc_M_ones_25 rfl rfl 1 rfl ?_
        exact y_iret hB hE dc_M_ones_26 ⟨rfl, rfl⟩
      · refine y_iload_n (pc' := 11) hB dc_M_ones_10 rfl rfl 1 rfl ?_
        refine y_lload_n (pc' := 12) hB dc_M_ones_11 rfl rfl 2 rfl ?_
        refine y_iload_n (pc' := 13) hB dc_M_ones_12 rfl rfl 0 rfl ?_
        refine y_lshr (v := (a) >>> (Int32.toInt64 (nI (k)) &&& 63)) (pc' := 14) hB dc_M_ones_13 rfl rfl ?_
        refine y_lconst (v := 1) (pc' := 15) hB dc_M_ones_14 rfl rfl ?_
        refine y_land (v := ((a) >>> (Int32.toInt64 (nI (k)) &&& 63)) &&& 1) (pc' := 16) hB dc_M_ones_15 rfl rfl ?_
        refine y_topl (y := zbl a k) (zbl_of a b1) ?_
        refine y_l2i (v := Int64.toInt32 (zbl a k)) (pc' := 17) hB dc_M_ones_16 rfl rfl ?_
        refine y_topi (y := nI (zb a k)) (zbl_i a k) ?_
        refine n_iadd (x := zn a k) (y := zb a k) (pc' := 18) hB dc_M_ones_17 rfl ?_
        refine y_istore_n (pc' := 19) (lv' := [(2, .int (nI ((zn a k) + (zb a k)))), (3, .int (nI (k))), (0, .long (a))]) hB hm dc_M_ones_18 rfl rfl (by decide) rfl ?_
        refine n_inc (q := 1) (z := 1) (pc' := 22) (lv' := [(3, .int (nI (k + 1))), (2, .int (nI ((zn a k) + (zb a k)))), (0, .long (a))]) hB hm dc_M_ones_19 rfl rfl (by decide) rfl ?_
        refine y_goto (tg := 4) hB dc_M_ones_22 rfl ?_
        refine y_sub [0, 1, 2] rfl ?_
        exact ih (k + 1) (by omega) b1
  exact loop 65 0 (by omega) (by omega)
set_option maxHeartbeats 4000000 in
set_option maxRecDepth 100000 in
theorem ct_M_isLess (l : Launch) (g : YG) (S : YS) (a b : Int64) : yC l mn_M_isLess mb_M_isLess 4 (some .boolean) 0 g [.long (a), .long (b)] S (fun v S' => v = some (.int (yb (decide (zu a < zu b)))) ∧ S' = S) := by
  refine yC_of (by decide) (Nat.le_of_ble_eq_true rfl) ?_
  intro o hl hg hB0 hE
  subst hl
  subst hg
  have hB : yB o mb_M_isLess "OrderBenchModel" := hB0
  have hm := hE.1
  show yW o (S) 0 [(0, .long (a)), (2, .long (b))] []
  refine y_lload_n (pc' := 1) hB dc_M_isLess_0 rfl rfl 0 rfl ?_
  refine y_ldc2 (v := (-9223372036854775808)) (pc' := 4) hB dc_M_isLess_1 rfl q_746 ?_
  refine y_ladd (v := a + ((-9223372036854775808))) (pc' := 5) hB dc_M_isLess_4 rfl rfl ?_
  refine y_topl (y := a ^^^ (-9223372036854775808)) (zadd_sign a) ?_
  refine y_lload_n (pc' := 6) hB dc_M_isLess_5 rfl rfl 1 rfl ?_
  refine y_ldc2 (v := (-9223372036854775808)) (pc' := 9) hB dc_M_isLess_6 rfl q_746 ?_
  refine y_ladd (v := b + ((-9223372036854775808))) (pc' := 10) hB dc_M_isLess_9 rfl rfl ?_
  refine y_topl (y := b ^^^ (-9223372036854775808)) (zadd_sign b) ?_
  refine y_lcmp (pc' := 11) hB dc_M_isLess_10 rfl ?_
  refine y_if_ge (x := lg_cmp (a ^^^ (-9223372036854775808)) (b ^^^ (-9223372036854775808))) (pc' := 14) (tg := 18) hB dc_M_isLess_11 rfl rfl (fun b1 => ?_) (fun b1 => ?_)
  · rw [lg_ge, zx_sign, zx_sign] at b1
    refine y_iconst (v := nI 0) (pc' := 19) hB dc_M_isLess_18 rfl rfl ?_
    exact y_zret hB hE dc_M_isLess_19 (Or.inl rfl) ⟨by rw [decide_eq_false (by omega)]; rfl, rfl⟩
  · rw [lg_ge, zx_sign, zx_sign] at b1
    refine y_iconst (v := nI 1) (pc' := 15) hB dc_M_isLess_14 rfl rfl ?_
    refine y_goto (tg := 19) hB dc_M_isLess_15 rfl ?_
    exact y_zret hB hE dc_M_isLess_19 (Or.inr rfl) ⟨by rw [decide_eq_true (by omega)]; rfl, rfl⟩
set_option maxHeartbeats 4000000 in
set_option maxRecDepth 100000 in
theorem ct_M_sizeOf (l : Launch) (g : YG) (S : YS) (a : Int64) : yC l mn_M_sizeOf mb_M_sizeOf 2 (some .long) 0 g [.long (a)] S (fun v S' => v = some (.long (zsz a)) ∧ S' = S) := by
  refine yC_of (by decide) (Nat.le_of_ble_eq_true rfl) ?_
  intro o hl hg hB0 hE
  subst hl
  subst hg
  have hB : yB o mb_M_sizeOf "OrderBenchModel" := hB0
  have hm := hE.1
  show yW o (S) 0 [(0, .long (a))] []
  refine y_lload_n (pc' := 1) hB dc_M_sizeOf_0 rfl rfl 0 rfl ?_
  refine y_lconst (v := 0) (pc' := 2) hB dc_M_sizeOf_1 rfl rfl ?_
  refine y_lcmp (pc' := 3) hB dc_M_sizeOf_2 rfl ?_
  refine y_if_ge (x := lg_cmp (a) (0)) (pc' := 6) (tg := 11) hB dc_M_sizeOf_3 rfl rfl (fun b1 => ?_) (fun b1 => ?_)
  · rw [lg_ge] at b1
    refine y_lload_n (pc' := 12) hB dc_M_sizeOf_11 rfl rfl 0 rfl ?_
    exact y_lret hB hE dc_M_sizeOf_12 ⟨by unfold zsz; rw [if_neg (by have : (0 : Int64).toInt = 0 := rfl; omega)], rfl⟩
  · rw [lg_ge] at b1
    refine y_lload_n (pc' := 7) hB dc_M_sizeOf_6 rfl rfl 0 rfl ?_
    refine y_lneg (v := -(a)) (pc' := 8) hB dc_M_sizeOf_7 rfl rfl ?_
    refine y_goto (tg := 12) hB dc_M_sizeOf_8 rfl ?_
    exact y_lret hB hE dc_M_sizeOf_12 ⟨by unfold zsz; rw [if_pos (by have : (0 : Int64).toInt = 0 := rfl; omega)], rfl⟩
set_option maxHeartbeats 4000000 in
set_option maxRecDepth 100000 in
theorem ct_M_isFirstByBits (l : Launch) (g : YG) (S : YS) (a b : Int64) : yC l mn_M_isFirstByBits mb_M_isFirstByBits 9 (some .boolean) 0 g [.long (a), .long (b)] S (fun v S' => v = some (.int (yb (decide (zv a 64 < zv b 64)))) ∧ S' = S) := by
  refine yC_of (by decide) (Nat.le_of_ble_eq_true rfl) ?_
  intro o hl hg hB0 hE
  subst hl
  subst hg
  have hB : yB o mb_M_isFirstByBits "OrderBenchModel" := hB0
  have hm := hE.1
  show yW o (S) 0 [(0, .long (a)), (2, .long (b))] []
  refine y_iconst (v := nI 0) (pc' := 1) hB dc_M_isFirstByBits_0 rfl rfl ?_
  refine y_istore (pc' := 3) (lv' := [(4, .int (nI (0))), (0, .long (a)), (2, .long (b))]) hB hm dc_M_isFirstByBits_1 rfl (by decide) rfl ?_
  have loop : ∀ (d : Nat) (k : Nat), 64 - k < d → k ≤ 64 → (∀ j, j < k → zb a j = zb b j) → yW o (S) 3 [(4, .int (nI (k))), (0, .long (a)), (2, .long (b))] [] := by
    intro d
    induction d with
    | zero => intro k hd; omega
    | succ d ih =>
      intro k hd h1 h2
      refine y_iload (pc' := 5) hB dc_M_isFirstByBits_3 rfl 0 rfl ?_
      refine y_bipush (v := nI 64) (pc' := 7) hB dc_M_isFirstByBits_5 rfl (by decide) ?_
      refine n_icmp_ge (pc' := 10) (tg := 53) hB dc_M_isFirstByBits_7 rfl rfl (by omega) (by omega) (fun b1 => ?_) (fun b1 => ?_)
      · have e : k = 64 := by omega
        subst e
        have e2 := zv_eq 64 h2
        refine y_iconst (v := nI 0) (pc' := 54) hB dc_M_isFirstByBits_53 rfl rfl ?_
        exact y_zret hB hE dc_M_isFirstByBits_54 (Or.inl rfl) ⟨by rw [decide_eq_false (by omega)]; rfl, rfl⟩
      · refine y_lload_n (pc' := 11) hB dc_M_isFirstByBits_10 rfl rfl 1 rfl ?_
        refine y_iload (pc' := 13) hB dc_M_isFirstByBits_11 rfl 0 rfl ?_
        refine y_lshr (v := (a) >>> (Int32.toInt64 (nI (k)) &&& 63)) (pc' := 14) hB dc_M_isFirstByBits_13 rfl rfl ?_
        refine y_lconst (v := 1) (pc' := 15) hB dc_M_isFirstByBits_14 rfl rfl ?_
        refine y_land (v := ((a) >>> (Int32.toInt64 (nI (k)) &&& 63)) &&& 1) (pc' := 16) hB dc_M_isFirstByBits_15 rfl rfl ?_
        refine y_topl (y := zbl a k) (zbl_of a b1) ?_
        refine y_lstore (pc' := 18) (lv' := [(5, .long (zbl a k)), (4, .int (nI (k))), (0, .long (a)), (2, .long (b))]) hB hm dc_M_isFirstByBits_16 rfl (by decide) rfl ?_
        refine y_lload_n (pc' := 19) hB dc_M_isFirstByBits_18 rfl rfl 3 rfl ?_
        refine y_iload (pc' := 21) hB dc_M_isFirstByBits_19 rfl 1 rfl ?_
        refine y_lshr (v := (b) >>> (Int32.toInt64 (nI (k)) &&& 63)) (pc' := 22) hB dc_M_isFirstByBits_21 rfl rfl ?_
        refine y_lconst (v := 1) (pc' := 23) hB dc_M_isFirstByBits_22 rfl rfl ?_
        refine y_land (v := ((b) >>> (Int32.toInt64 (nI (k)) &&& 63)) &&& 1) (pc' := 24) hB dc_M_isFirstByBits_23 rfl rfl ?_
        refine y_topl (y := zbl b k) (zbl_of b b1) ?_
        refine y_lstore (pc' := 26) (lv' := [(7, .long (zbl b k)), (5, .long (zbl a k)), (4, .int (nI (k))), (0, .long (a)), (2, .long (b))]) hB hm dc_M_isFirstByBits_24 rfl (by decide) rfl ?_
        refine y_lload (pc' := 28) hB dc_M_isFirstByBits_26 rfl 1 rfl ?_
        refine y_lload (pc' := 30) hB dc_M_isFirstByBits_28 rfl 0 rfl ?_
        refine y_lcmp (pc' := 31) hB dc_M_isFirstByBits_30 rfl ?_
        refine y_if_eq (x := lg_cmp (zbl a k) (zbl b k)) (pc' := 34) (tg := 47) hB dc_M_isFirstByBits_31 rfl rfl (fun b2 => ?_) (fun b2 => ?_)
        · rw [lg_0, zbl_b] at b2
          refine n_inc (q := 2) (z := 1) (pc' := 50) (lv' := [(4, .int (nI (k + 1))), (7, .long (zbl b k)), (5, .long (zbl a k)), (0, .long (a)), (2, .long (b))]) hB hm dc_M_isFirstByBits_47 rfl rfl (by decide) rfl ?_
          refine y_goto (tg := 3) hB dc_M_isFirstByBits_50 rfl ?_
          refine y_sub [0, 3, 4] rfl ?_
          refine ih (k + 1) (by omega) b1 (fun j hj => ?_)
          by_cases e : j = k
          · rw [e]; exact b2
          · exact h2 j (by omega)
        · rw [lg_0, zbl_b] at b2
          have q1 := zb_01 a k
          have q2 := zb_01 b k
          refine y_lload (pc' := 36) hB dc_M_isFirstByBits_34 rfl 1 rfl ?_
          refine y_lconst (v := 0) (pc' := 37) hB dc_M_isFirstByBits_36 rfl rfl ?_
          refine y_lcmp (pc' := 38) hB dc_M_isFirstByBits_37 rfl ?_
          refine y_if_ne (x := lg_cmp (zbl a k) (0)) (pc' := 41) (tg := 45) hB dc_M_isFirstByBits_38 rfl rfl (fun b3 => ?_) (fun b3 => ?_)
          · rw [lg_0, zbl_0] at b3
            have e := zv_lt (x := b) (y := a) (by omega) (by omega) (fun j hj => (h2 j hj).symm) 64 b1
            refine y_iconst (v := nI 0) (pc' := 46) hB dc_M_isFirstByBits_45 rfl rfl ?_
            exact y_zret hB hE dc_M_isFirstByBits_46 (Or.inl rfl) ⟨by rw [decide_eq_false (by omega)]; rfl, rfl⟩
          · rw [lg_0, zbl_0] at b3
            have e := zv_lt (x := a) (y := b) (by omega) (by omega) h2 64 b1
            refine y_iconst (v := nI 1) (pc' := 42) hB dc_M_isFirstByBits_41 rfl rfl ?_
            refine y_goto (tg := 46) hB dc_M_isFirstByBits_42 rfl ?_
            exact y_zret hB hE dc_M_isFirstByBits_46 (Or.inr rfl) ⟨by rw [decide_eq_true (by omega)]; rfl, rfl⟩
  exact loop 65 0 (by omega) (by omega) (fun j hj => by omega)
set_option maxHeartbeats 4000000 in
set_option maxRecDepth 100000 in
theorem ct_M_isBefore (l : Launch) (g : YG) (S : YS) (od : Nat) (ho : od < 8) (a b : Int64) : yC l mn_M_isBefore mb_M_isBefore 5 (some .boolean) 1 g [.int (nI (od)), .long (a), .long (b)] S (fun v S' => v = some (.int (yb (decide (zr od a < zr od b)))) ∧ S' = S) := by
  refine yC_of (by decide) (Nat.le_of_ble_eq_true rfl) ?_
  intro o hl hg hB0 hE
  subst hl
  subst hg
  have hB : yB o mb_M_isBefore "OrderBenchModel" := hB0
  have hm := hE.1
  show yW o (S) 0 [(0, .int (nI (od))), (1, .long (a)), (3, .long (b))] []
  have ha := zw_b a
  have hb := zw_b b
  refine y_iload_n (pc' := 1) hB dc_M_isBefore_0 rfl rfl 0 rfl ?_
  rcases (show od = 0 ∨ od = 1 ∨ od = 2 ∨ od = 3 ∨ od = 4 ∨ od = 5 ∨ od = 6 ∨ od = 7 by omega) with e | e | e | e | e | e | e | e
  · subst e
    refine y_tableIn (off := 43) (tg := 44) hB dc_M_isBefore_1 (by decide) (by decide) rfl rfl ?_
    refine y_lload_n (pc' := 45) hB dc_M_isBefore_44 rfl rfl 1 rfl ?_
    refine y_lload_n (pc' := 46) hB dc_M_isBefore_45 rfl rfl 2 rfl ?_
    refine y_lcmp (pc' := 47) hB dc_M_isBefore_46 rfl ?_
    refine y_if_ge (x := lg_cmp (a) (b)) (pc' := 50) (tg := 54) hB dc_M_isBefore_47 rfl rfl (fun b1 => ?_) (fun b1 => ?_)
    · rw [lg_ge] at b1
      refine y_iconst (v := nI 0) (pc' := 55) hB dc_M_isBefore_54 rfl rfl ?_
      exact y_zret hB hE dc_M_isBefore_55 (Or.inl rfl) ⟨by rw [decide_eq_false (by rw [zr_0, zr_0]; omega)]; rfl, rfl⟩
    · rw [lg_ge] at b1
      refine y_iconst (v := nI 1) (pc' := 51) hB dc_M_isBefore_50 rfl rfl ?_
      refine y_goto (tg := 55) hB dc_M_isBefore_51 rfl ?_
      exact y_zret hB hE dc_M_isBefore_55 (Or.inr rfl) ⟨by rw [decide_eq_true (by rw [zr_0, zr_0]; omega)]; rfl, rfl⟩
  · subst e
    refine y_tableIn (off := 55) (tg := 56) hB dc_M_isBefore_1 (by decide) (by decide) rfl rfl ?_
    refine y_lload_n (pc' := 57) hB dc_M_isBefore_56 rfl rfl 2 rfl ?_
    refine y_lload_n (pc' := 58) hB dc_M_isBefore_57 rfl rfl 1 rfl ?_
    refine y_lcmp (pc' := 59) hB dc_M_isBefore_58 rfl ?_
    refine y_if_ge (x := lg_cmp (b) (a)) (pc' := 62) (tg := 66) hB dc_M_isBefore_59 rfl rfl (fun b1 => ?_) (fun b1 => ?_)
    · rw [lg_ge] at b1
      refine y_iconst (v := nI 0) (pc' := 67) hB dc_M_isBefore_66 rfl rfl ?_
      exact y_zret hB hE dc_M_isBefore_67 (Or.inl rfl) ⟨by rw [decide_eq_false (by rw [zr_1, zr_1]; omega)]; rfl, rfl⟩
    · rw [lg_ge] at b1
      refine y_iconst (v := nI 1) (pc' := 63) hB dc_M_isBefore_62 rfl rfl ?_
      refine y_goto (tg := 67) hB dc_M_isBefore_63 rfl ?_
      exact y_zret hB hE dc_M_isBefore_67 (Or.inr rfl) ⟨by rw [decide_eq_true (by rw [zr_1, zr_1]; omega)]; rfl, rfl⟩
  · subst e
    refine y_tableIn (off := 67) (tg := 68) hB dc_M_isBefore_1 (by decide) (by decide) rfl rfl ?_
    refine y_lload_n (pc' := 69) hB dc_M_isBefore_68 rfl rfl 1 rfl ?_
    refine y_lload_n (pc' := 70) hB dc_M_isBefore_69 rfl rfl 2 rfl ?_
    refine y_callS (As := [.long (a), .long (b)]) (rest := []) (pc' := 73) hB hE (ct_M_isLess o.l o.G S a b) mm_M_isLess q_743 q_744 dc_M_isBefore_70 rfl (by decide) rfl rfl (Nat.le_of_ble_eq_true rfl) (fun v S' hpost => ?_)
    obtain ⟨rfl, hSS⟩ := hpost
    rw [hSS]
    clear hSS S'
    show yW o (S) 73 [(0, .int (nI (2))), (1, .long (a)), (3, .long (b))] [.int (yb (decide (zu a < zu b)))]
    exact y_zret hB hE dc_M_isBefore_73 (yb_or _) ⟨by rw [zr_2, zr_2, decide_eq_decide.mpr (show zu a < zu b ↔ ((zu a : Nat) : Int) < ((zu b : Nat) : Int) by omega)], rfl⟩
  · subst e
    refine y_tableIn (off := 73) (tg := 74) hB dc_M_isBefore_1 (by decide) (by decide) rfl rfl ?_
    have na := zn_le a 64
    have nb := zn_le b 64
    refine y_lload_n (pc' := 75) hB dc_M_isBefore_74 rfl rfl 1 rfl ?_
    refine y_callS (As := [.long (a)]) (rest := []) (pc' := 78) hB hE (ct_M_ones o.l o.G S a) mm_M_ones q_747 q_748 dc_M_isBefore_75 rfl (by decide) rfl rfl (Nat.le_of_ble_eq_true rfl) (fun v S' hpost => ?_)
    obtain ⟨rfl, hSS⟩ := hpost
    rw [hSS]
    clear hSS S'
    show yW o (S) 78 [(0, .int (nI (3))), (1, .long (a)), (3, .long (b))] [.int (nI (zn a 64))]
    refine y_lload_n (pc' := 79) hB dc_M_isBefore_78 rfl rfl 2 rfl ?_
    refine y_callS (As := [.long (b)]) (rest := [.int (nI (zn a 64))]) (pc' := 82) hB hE (ct_M_ones o.l o.G S b) mm_M_ones q_747 q_748 dc_M_isBefore_79 rfl (by decide) rfl rfl (Nat.le_of_ble_eq_true rfl) (fun v S' hpost => ?_)
    obtain ⟨rfl, hSS⟩ := hpost
    rw [hSS]
    clear hSS S'
    show yW o (S) 82 [(0, .int (nI (3))), (1, .long (a)), (3, .long (b))] [.int (nI (zn b 64)), .int (nI (zn a 64))]
    refine n_icmp_lt (pc' := 85) (tg := 102) hB dc_M_isBefore_82 rfl rfl (by omega) (by omega) (fun b1 => ?_) (fun b1 => ?_)
    · refine y_iconst (v := nI 1) (pc' := 103) hB dc_M_isBefore_102 rfl rfl ?_
      refine y_goto (tg := 107) hB dc_M_isBefore_103 rfl ?_
      exact y_zret hB hE dc_M_isBefore_107 (Or.inr rfl) ⟨by rw [decide_eq_true (by rw [zr_3, zr_3]; omega)]; rfl, rfl⟩
    · refine y_lload_n (pc' := 86) hB dc_M_isBefore_85 rfl rfl 1 rfl ?_
      refine y_callS (As := [.long (a)]) (rest := []) (pc' := 89) hB hE (ct_M_ones o.l o.G S a) mm_M_ones q_747 q_748 dc_M_isBefore_86 rfl (by decide) rfl rfl (Nat.le_of_ble_eq_true rfl) (fun v S' hpost => ?_)
      obtain ⟨rfl, hSS⟩ := hpost
      rw [hSS]
      clear hSS S'
      show yW o (S) 89 [(0, .int (nI (3))), (1, .long (a)), (3, .long (b))] [.int (nI (zn a 64))]
      refine y_lload_n (pc' := 90) hB dc_M_isBefore_89 rfl rfl 2 rfl ?_
      refine y_callS (As := [.long (b)]) (rest := [.int (nI (zn a 64))]) (pc' := 93) hB hE (ct_M_ones o.l o.G S b) mm_M_ones q_747 q_748 dc_M_isBefore_90 rfl (by decide) rfl rfl (Nat.le_of_ble_eq_true rfl) (fun v S' hpost => ?_)
      obtain ⟨rfl, hSS⟩ := hpost
      rw [hSS]
      clear hSS S'
      show yW o (S) 93 [(0, .int (nI (3))), (1, .long (a)), (3, .long (b))] [.int (nI (zn b 64)), .int (nI (zn a 64))]
      refine n_icmp_ne (pc' := 96) (tg := 106) hB dc_M_isBefore_93 rfl rfl (by omega) (by omega) (fun b2 => ?_) (fun b2 => ?_)
      · refine y_iconst (v := nI 0) (pc' := 107) hB dc_M_isBefore_106 rfl rfl ?_
        exact y_zret hB hE dc_M_isBefore_107 (Or.inl rfl) ⟨by rw [decide_eq_false (by rw [zr_3, zr_3]; omega)]; rfl, rfl⟩
      · refine y_lload_n (pc' := 97) hB dc_M_isBefore_96 rfl rfl 1 rfl ?_
        refine y_lload_n (pc' := 98) hB dc_M_isBefore_97 rfl rfl 2 rfl ?_
        refine y_lcmp (pc' := 99) hB dc_M_isBefore_98 rfl ?_
        refine y_if_ge (x := lg_cmp (a) (b)) (pc' := 102) (tg := 106) hB dc_M_isBefore_99 rfl rfl (fun b3 => ?_) (fun b3 => ?_)
        · rw [lg_ge] at b3
          refine y_iconst (v := nI 0) (pc' := 107) hB dc_M_isBefore_106 rfl rfl ?_
          exact y_zret hB hE dc_M_isBefore_107 (Or.inl rfl) ⟨by rw [decide_eq_false (by rw [zr_3, zr_3]; omega)]; rfl, rfl⟩
        · rw [lg_ge] at b3
          refine y_iconst (v := nI 1) (pc' := 103) hB dc_M_isBefore_102 rfl rfl ?_
          refine y_goto (tg := 107) hB dc_M_isBefore_103 rfl ?_
          exact y_zret hB hE dc_M_isBefore_107 (Or.inr rfl) ⟨by rw [decide_eq_true (by rw [zr_3, zr_3]; omega)]; rfl, rfl⟩
  · subst e
    refine y_tableIn (off := 107) (tg := 108) hB dc_M_isBefore_1 (by decide) (by decide) rfl rfl ?_
    refine y_lload_n (pc' := 109) hB dc_M_isBefore_108 rfl rfl 1 rfl ?_
    refine y_lconst (v := 1) (pc' := 110) hB dc_M_isBefore_109 rfl rfl ?_
    refine y_land (v := a &&& 1) (pc' := 111) hB dc_M_isBefore_110 rfl rfl ?_
    refine y_lload_n (pc' := 112) hB dc_M_isBefore_111 rfl rfl 2 rfl ?_
    refine y_lconst (v := 1) (pc' := 113) hB dc_M_isBefore_112 rfl rfl ?_
    refine y_land (v := b &&& 1) (pc' := 114) hB dc_M_isBefore_113 rfl rfl ?_
    refine y_lcmp (pc' := 115) hB dc_M_isBefore_114 rfl ?_
    refine y_if_ge (x := lg_cmp (a &&& 1) (b &&& 1)) (pc' := 118) (tg := 122) hB dc_M_isBefore_115 rfl rfl (fun b1 => ?_) (fun b1 => ?_)
    · rw [lg_ge, zx_and1, zx_and1] at b1
      refine y_iconst (v := nI 0) (pc' := 123) hB dc_M_isBefore_122 rfl rfl ?_
      exact y_zret hB hE dc_M_isBefore_123 (Or.inl rfl) ⟨by rw [decide_eq_false (by rw [zr_4, zr_4]; omega)]; rfl, rfl⟩
    · rw [lg_ge, zx_and1, zx_and1] at b1
      refine y_iconst (v := nI 1) (pc' := 119) hB dc_M_isBefore_118 rfl rfl ?_
      refine y_goto (tg := 123) hB dc_M_isBefore_119 rfl ?_
      exact y_zret hB hE dc_M_isBefore_123 (Or.inr rfl) ⟨by rw [decide_eq_true (by rw [zr_4, zr_4]; omega)]; rfl, rfl⟩
  · subst e
    refine y_tableIn (off := 123) (tg := 124) hB dc_M_isBefore_1 (by decide) (by decide) rfl rfl ?_
    refine y_lload_n (pc' := 125) hB dc_M_isBefore_124 rfl rfl 1 rfl ?_
    refine y_ldc2 (v := 255) (pc' := 128) hB dc_M_isBefore_125 rfl q_750 ?_
    refine y_land (v := a &&& 255) (pc' := 129) hB dc_M_isBefore_128 rfl rfl ?_
    refine y_lload_n (pc' := 130) hB dc_M_isBefore_129 rfl rfl 2 rfl ?_
    refine y_ldc2 (v := 255) (pc' := 133) hB dc_M_isBefore_130 rfl q_750 ?_
    refine y_land (v := b &&& 255) (pc' := 134) hB dc_M_isBefore_133 rfl rfl ?_
    refine y_lcmp (pc' := 135) hB dc_M_isBefore_134 rfl ?_
    refine y_if_ge (x := lg_cmp (a &&& 255) (b &&& 255)) (pc' := 138) (tg := 142) hB dc_M_isBefore_135 rfl rfl (fun b1 => ?_) (fun b1 => ?_)
    · rw [lg_ge, zx_and255, zx_and255] at b1
      refine y_iconst (v := nI 0) (pc' := 143) hB dc_M_isBefore_142 rfl rfl ?_
      exact y_zret hB hE dc_M_isBefore_143 (Or.inl rfl) ⟨by rw [decide_eq_false (by rw [zr_5, zr_5]; omega)]; rfl, rfl⟩
    · rw [lg_ge, zx_and255, zx_and255] at b1
      refine y_iconst (v := nI 1) (pc' := 139) hB dc_M_isBefore_138 rfl rfl ?_
      refine y_goto (tg := 143) hB dc_M_isBefore_139 rfl ?_
      exact y_zret hB hE dc_M_isBefore_143 (Or.inr rfl) ⟨by rw [decide_eq_true (by rw [zr_5, zr_5]; omega)]; rfl, rfl⟩
  · subst e
    refine y_tableIn (off := 143) (tg := 144) hB dc_M_isBefore_1 (by decide) (by decide) rfl rfl ?_
    have sa := zsz_u a
    have sb := zsz_u b
    refine y_lload_n (pc' := 145) hB dc_M_isBefore_144 rfl rfl 1 rfl ?_
    refine y_callS (As := [.long (a)]) (rest := []) (pc' := 148) hB hE (ct_M_sizeOf o.l o.G S a) mm_M_sizeOf q_751 q_752 dc_M_isBefore_145 rfl (by decide) rfl rfl (Nat.le_of_ble_eq_true rfl) (fun v S' hpost => ?_)
    obtain ⟨rfl, hSS⟩ := hpost
    rw [hSS]
    clear hSS S'
    show yW o (S) 148 [(0, .int (nI (6))), (1, .long (a)), (3, .long (b))] [.long (zsz a)]
    refine y_lload_n (pc' := 149) hB dc_M_isBefore_148 rfl rfl 2 rfl ?_
    refine y_callS (As := [.long (b)]) (rest := [.long (zsz a)]) (pc' := 152) hB hE (ct_M_sizeOf o.l o.G S b) mm_M_sizeOf q_751 q_752 dc_M_isBefore_149 rfl (by decide) rfl rfl (Nat.le_of_ble_eq_true rfl) (fun v S' hpost => ?_)
    obtain ⟨rfl, hSS⟩ := hpost
    rw [hSS]
    clear hSS S'
    show yW o (S) 152 [(0, .int (nI (6))), (1, .long (a)), (3, .long (b))] [.long (zsz b), .long (zsz a)]
    refine y_callS (As := [.long (zsz a), .long (zsz b)]) (rest := []) (pc' := 155) hB hE (ct_M_isLess o.l o.G S (zsz a) (zsz b)) mm_M_isLess q_743 q_744 dc_M_isBefore_152 rfl (by decide) rfl rfl (Nat.le_of_ble_eq_true rfl) (fun v S' hpost => ?_)
    obtain ⟨rfl, hSS⟩ := hpost
    rw [hSS]
    clear hSS S'
    show yW o (S) 155 [(0, .int (nI (6))), (1, .long (a)), (3, .long (b))] [.int (yb (decide (zu (zsz a) < zu (zsz b))))]
    refine y_if_ne (x := yb (decide (zu (zsz a) < zu (zsz b)))) (pc' := 158) (tg := 176) hB dc_M_isBefore_155 rfl rfl (fun b1 => ?_) (fun b1 => ?_)
    · rw [yb_n, decide_eq_true_eq] at b1
      refine y_iconst (v := nI 1) (pc' := 177) hB dc_M_isBefore_176 rfl rfl ?_
      refine y_goto (tg := 181) hB dc_M_isBefore_177 rfl ?_
      exact y_zret hB hE dc_M_isBefore_181 (Or.inr rfl) ⟨by rw [decide_eq_true (by rw [zr_6, zr_6]; omega)]; rfl, rfl⟩
    · rw [yb_0, decide_eq_false_iff_not] at b1
      refine y_lload_n (pc' := 159) hB dc_M_isBefore_158 rfl rfl 1 rfl ?_
      refine y_callS (As := [.long (a)]) (rest := []) (pc' := 162) hB hE (ct_M_sizeOf o.l o.G S a) mm_M_sizeOf q_751 q_752 dc_M_isBefore_159 rfl (by decide) rfl rfl (Nat.le_of_ble_eq_true rfl) (fun v S' hpost => ?_)
      obtain ⟨rfl, hSS⟩ := hpost
      rw [hSS]
      clear hSS S'
      show yW o (S) 162 [(0, .int (nI (6))), (1, .long (a)), (3, .long (b))] [.long (zsz a)]
      refine y_lload_n (pc' := 163) hB dc_M_isBefore_162 rfl rfl 2 rfl ?_
      refine y_callS (As := [.long (b)]) (rest := [.long (zsz a)]) (pc' := 166) hB hE (ct_M_sizeOf o.l o.G S b) mm_M_sizeOf q_751 q_752 dc_M_isBefore_163 rfl (by decide) rfl rfl (Nat.le_of_ble_eq_true rfl) (fun v S' hpost => ?_)
      obtain ⟨rfl, hSS⟩ := hpost
      rw [hSS]
      clear hSS S'
      show yW o (S) 166 [(0, .int (nI (6))), (1, .long (a)), (3, .long (b))] [.long (zsz b), .long (zsz a)]
      refine y_lcmp (pc' := 167) hB dc_M_isBefore_166 rfl ?_
      refine y_if_ne (x := lg_cmp (zsz a) (zsz b)) (pc' := 170) (tg := 180) hB dc_M_isBefore_167 rfl rfl (fun b2 => ?_) (fun b2 => ?_)
      · rw [lg_0] at b2
        have b3 : zu (zsz a) ≠ zu (zsz b) := fun q => b2 (uN_inj q)
        refine y_iconst (v := nI 0) (pc' := 181) hB dc_M_isBefore_180 rfl rfl ?_
        exact y_zret hB hE dc_M_isBefore_181 (Or.inl rfl) ⟨by rw [decide_eq_false (by rw [zr_6, zr_6]; omega)]; rfl, rfl⟩
      · rw [lg_0] at b2
        have b4 : zu (zsz a) = zu (zsz b) := by rw [b2]
        refine y_lload_n (pc' := 171) hB dc_M_isBefore_170 rfl rfl 1 rfl ?_
        refine y_lload_n (pc' := 172) hB dc_M_isBefore_171 rfl rfl 2 rfl ?_
        refine y_lcmp (pc' := 173) hB dc_M_isBefore_172 rfl ?_
        refine y_if_ge (x := lg_cmp (a) (b)) (pc' := 176) (tg := 180) hB dc_M_isBefore_173 rfl rfl (fun b3 => ?_) (fun b3 => ?_)
        · rw [lg_ge] at b3
          refine y_iconst (v := nI 0) (pc' := 181) hB dc_M_isBefore_180 rfl rfl ?_
          exact y_zret hB hE dc_M_isBefore_181 (Or.inl rfl) ⟨by rw [decide_eq_false (by rw [zr_6, zr_6]; omega)]; rfl, rfl⟩
        · rw [lg_ge] at b3
          refine y_iconst (v := nI 1) (pc' := 177) hB dc_M_isBefore_176 rfl rfl ?_
          refine y_goto (tg := 181) hB dc_M_isBefore_177 rfl ?_
          exact y_zret hB hE dc_M_isBefore_181 (Or.inr rfl) ⟨by rw [decide_eq_true (by rw [zr_6, zr_6]; omega)]; rfl, rfl⟩
  · subst e
    refine y_tableOut (tg := 182) hB dc_M_isBefore_1 (by decide) rfl ?_
    refine y_lload_n (pc' := 183) hB dc_M_isBefore_182 rfl rfl 1 rfl ?_
    refine y_lload_n (pc' := 184) hB dc_M_isBefore_183 rfl rfl 2 rfl ?_
    refine y_callS (As := [.long (a), .long (b)]) (rest := []) (pc' := 187) hB hE (ct_M_isFirstByBits o.l o.G S a b) mm_M_isFirstByBits q_754 q_755 dc_M_isBefore_184 rfl (by decide) rfl rfl (Nat.le_of_ble_eq_true rfl) (fun v S' hpost => ?_)
    obtain ⟨rfl, hSS⟩ := hpost
    rw [hSS]
    clear hSS S'
    show yW o (S) 187 [(0, .int (nI (7))), (1, .long (a)), (3, .long (b))] [.int (yb (decide (zv a 64 < zv b 64)))]
    exact y_zret hB hE dc_M_isBefore_187 (yb_or _) ⟨by rw [zr_7, zr_7, decide_eq_decide.mpr (show zv a 64 < zv b 64 ↔ ((zv a 64 : Nat) : Int) < ((zv b 64 : Nat) : Int) by omega)], rfl⟩
set_option maxHeartbeats 4000000 in
set_option maxRecDepth 100000 in
theorem ct_M_areAlike (l : Launch) (g : YG) (S : YS) (od : Nat) (ho : od < 8) (a b : Int64) : yC l mn_M_areAlike mb_M_areAlike 5 (some .boolean) 2 g [.int (nI (od)), .long (a), .long (b)] S (fun v S' => v = some (.int (yb (decide (zr od a = zr od b)))) ∧ S' = S) := by
  refine yC_of (by decide) (Nat.le_of_ble_eq_true rfl) ?_
  intro o hl hg hB0 hE
  subst hl
  subst hg
  have hB : yB o mb_M_areAlike "OrderBenchModel" := hB0
  have hm := hE.1
  show yW o (S) 0 [(0, .int (nI (od))), (1, .long (a)), (3, .long (b))] []
  refine y_iload_n (pc' := 1) hB dc_M_areAlike_0 rfl rfl 0 rfl ?_
  refine y_lload_n (pc' := 2) hB dc_M_areAlike_1 rfl rfl 1 rfl ?_
  refine y_lload_n (pc' := 3) hB dc_M_areAlike_2 rfl rfl 2 rfl ?_
  refine y_callS (As := [.int (nI (od)), .long (a), .long (b)]) (rest := []) (pc' := 6) hB hE (ct_M_isBefore o.l o.G S od ho a b) mm_M_isBefore q_740 q_741 dc_M_areAlike_3 rfl (by decide) rfl rfl (Nat.le_of_ble_eq_true rfl) (fun v S' hpost => ?_)
  obtain ⟨rfl, hSS⟩ := hpost
  rw [hSS]
  clear hSS S'
  show yW o (S) 6 [(0, .int (nI (od))), (1, .long (a)), (3, .long (b))] [.int (yb (decide (zr od a < zr od b)))]
  refine y_if_ne (x := yb (decide (zr od a < zr od b))) (pc' := 9) (tg := 22) hB dc_M_areAlike_6 rfl rfl (fun b1 => ?_) (fun b1 => ?_)
  · rw [yb_n, decide_eq_true_eq] at b1
    refine y_iconst (v := nI 0) (pc' := 23) hB dc_M_areAlike_22 rfl rfl ?_
    exact y_zret hB hE dc_M_areAlike_23 (Or.inl rfl) ⟨by rw [decide_eq_false (by omega)]; rfl, rfl⟩
  · rw [yb_0, decide_eq_false_iff_not] at b1
    refine y_iload_n (pc' := 10) hB dc_M_areAlike_9 rfl rfl 0 rfl ?_
    refine y_lload_n (pc' := 11) hB dc_M_areAlike_10 rfl rfl 2 rfl ?_
    refine y_lload_n (pc' := 12) hB dc_M_areAlike_11 rfl rfl 1 rfl ?_
    refine y_callS (As := [.int (nI (od)), .long (b), .long (a)]) (rest := []) (pc' := 15) hB hE (ct_M_isBefore o.l o.G S od ho b a) mm_M_isBefore q_740 q_741 dc_M_areAlike_12 rfl (by decide) rfl rfl (Nat.le_of_ble_eq_true rfl) (fun v S' hpost => ?_)
    obtain ⟨rfl, hSS⟩ := hpost
    rw [hSS]
    clear hSS S'
    show yW o (S) 15 [(0, .int (nI (od))), (1, .long (a)), (3, .long (b))] [.int (yb (decide (zr od b < zr od a)))]
    refine y_if_ne (x := yb (decide (zr od b < zr od a))) (pc' := 18) (tg := 22) hB dc_M_areAlike_15 rfl rfl (fun b2 => ?_) (fun b2 => ?_)
    · rw [yb_n, decide_eq_true_eq] at b2
      refine y_iconst (v := nI 0) (pc' := 23) hB dc_M_areAlike_22 rfl rfl ?_
      exact y_zret hB hE dc_M_areAlike_23 (Or.inl rfl) ⟨by rw [decide_eq_false (by omega)]; rfl, rfl⟩
    · rw [yb_0, decide_eq_false_iff_not] at b2
      refine y_iconst (v := nI 1) (pc' := 19) hB dc_M_areAlike_18 rfl rfl ?_
      refine y_goto (tg := 23) hB dc_M_areAlike_19 rfl ?_
      exact y_zret hB hE dc_M_areAlike_23 (Or.inr rfl) ⟨by rw [decide_eq_true (by omega)]; rfl, rfl⟩
