/-! PILE: runs -/
theorem dc_Pi_leastRun_0 : decode mb_Pi_leastRun 0 = .ok (.iload_n 0, 1) := by decide +kernel
theorem dc_Pi_leastRun_1 : decode mb_Pi_leastRun 1 = .ok (.istore_n 1, 1) := by decide +kernel
theorem dc_Pi_leastRun_2 : decode mb_Pi_leastRun 2 = .ok (.iconst 0, 1) := by decide +kernel
theorem dc_Pi_leastRun_3 : decode mb_Pi_leastRun 3 = .ok (.istore_n 2, 1) := by decide +kernel
theorem dc_Pi_leastRun_4 : decode mb_Pi_leastRun 4 = .ok (.iload_n 1, 1) := by decide +kernel
theorem dc_Pi_leastRun_5 : decode mb_Pi_leastRun 5 = .ok (.bipush 32, 2) := by decide +kernel
theorem dc_Pi_leastRun_7 : decode mb_Pi_leastRun 7 = .ok (.if_icmp .lt 16, 3) := by decide +kernel
theorem dc_Pi_leastRun_10 : decode mb_Pi_leastRun 10 = .ok (.iload_n 2, 1) := by decide +kernel
theorem dc_Pi_leastRun_11 : decode mb_Pi_leastRun 11 = .ok (.iload_n 1, 1) := by decide +kernel
theorem dc_Pi_leastRun_12 : decode mb_Pi_leastRun 12 = .ok (.iconst 1, 1) := by decide +kernel
theorem dc_Pi_leastRun_13 : decode mb_Pi_leastRun 13 = .ok (.iand, 1) := by decide +kernel
theorem dc_Pi_leastRun_14 : decode mb_Pi_leastRun 14 = .ok (.ior, 1) := by decide +kernel
theorem dc_Pi_leastRun_15 : decode mb_Pi_leastRun 15 = .ok (.istore_n 2, 1) := by decide +kernel
theorem dc_Pi_leastRun_16 : decode mb_Pi_leastRun 16 = .ok (.iload_n 1, 1) := by decide +kernel
theorem dc_Pi_leastRun_17 : decode mb_Pi_leastRun 17 = .ok (.iconst 1, 1) := by decide +kernel
theorem dc_Pi_leastRun_18 : decode mb_Pi_leastRun 18 = .ok (.ishr, 1) := by decide +kernel
theorem dc_Pi_leastRun_19 : decode mb_Pi_leastRun 19 = .ok (.istore_n 1, 1) := by decide +kernel
theorem dc_Pi_leastRun_20 : decode mb_Pi_leastRun 20 = .ok (.goto (-16), 3) := by decide +kernel
theorem dc_Pi_leastRun_23 : decode mb_Pi_leastRun 23 = .ok (.iload_n 1, 1) := by decide +kernel
theorem dc_Pi_leastRun_24 : decode mb_Pi_leastRun 24 = .ok (.iload_n 2, 1) := by decide +kernel
theorem dc_Pi_leastRun_25 : decode mb_Pi_leastRun 25 = .ok (.iadd, 1) := by decide +kernel
theorem dc_Pi_leastRun_26 : decode mb_Pi_leastRun 26 = .ok (.ireturn, 1) := by decide +kernel
theorem dc_Pi_makeRun_0 : decode mb_Pi_makeRun 0 = .ok (.aload_n 0, 1) := by decide +kernel
theorem dc_Pi_makeRun_1 : decode mb_Pi_makeRun 1 = .ok (.getfield 15, 3) := by decide +kernel
theorem dc_Pi_makeRun_4 : decode mb_Pi_makeRun 4 = .ok (.aload_n 1, 1) := by decide +kernel
theorem dc_Pi_makeRun_5 : decode mb_Pi_makeRun 5 = .ok (.iload_n 2, 1) := by decide +kernel
theorem dc_Pi_makeRun_6 : decode mb_Pi_makeRun 6 = .ok (.invokevirtual 51, 3) := by decide +kernel
theorem dc_Pi_makeRun_9 : decode mb_Pi_makeRun 9 = .ok (.istore 4, 2) := by decide +kernel
theorem dc_Pi_makeRun_11 : decode mb_Pi_makeRun 11 = .ok (.aload_n 0, 1) := by decide +kernel
theorem dc_Pi_makeRun_12 : decode mb_Pi_makeRun 12 = .ok (.getfield 15, 3) := by decide +kernel
theorem dc_Pi_makeRun_15 : decode mb_Pi_makeRun 15 = .ok (.aload_n 1, 1) := by decide +kernel
theorem dc_Pi_makeRun_16 : decode mb_Pi_makeRun 16 = .ok (.iload_n 2, 1) := by decide +kernel
theorem dc_Pi_makeRun_17 : decode mb_Pi_makeRun 17 = .ok (.iload 4, 2) := by decide +kernel
theorem dc_Pi_makeRun_19 : decode mb_Pi_makeRun 19 = .ok (.invokevirtual 57, 3) := by decide +kernel
theorem dc_Pi_makeRun_22 : decode mb_Pi_makeRun 22 = .ok (.istore 5, 2) := by decide +kernel
theorem dc_Pi_makeRun_24 : decode mb_Pi_makeRun 24 = .ok (.iload 4, 2) := by decide +kernel
theorem dc_Pi_makeRun_26 : decode mb_Pi_makeRun 26 = .ok (.ifCond .eq 10, 3) := by decide +kernel
theorem dc_Pi_makeRun_29 : decode mb_Pi_makeRun 29 = .ok (.aload_n 1, 1) := by decide +kernel
theorem dc_Pi_makeRun_30 : decode mb_Pi_makeRun 30 = .ok (.iload_n 2, 1) := by decide +kernel
theorem dc_Pi_makeRun_31 : decode mb_Pi_makeRun 31 = .ok (.iload 5, 2) := by decide +kernel
theorem dc_Pi_makeRun_33 : decode mb_Pi_makeRun 33 = .ok (.invokevirtual 61, 3) := by decide +kernel
theorem dc_Pi_makeRun_36 : decode mb_Pi_makeRun 36 = .ok (.iload_n 2, 1) := by decide +kernel
theorem dc_Pi_makeRun_37 : decode mb_Pi_makeRun 37 = .ok (.iload_n 3, 1) := by decide +kernel
theorem dc_Pi_makeRun_38 : decode mb_Pi_makeRun 38 = .ok (.iadd, 1) := by decide +kernel
theorem dc_Pi_makeRun_39 : decode mb_Pi_makeRun 39 = .ok (.aload_n 1, 1) := by decide +kernel
theorem dc_Pi_makeRun_40 : decode mb_Pi_makeRun 40 = .ok (.getfield 27, 3) := by decide +kernel
theorem dc_Pi_makeRun_43 : decode mb_Pi_makeRun 43 = .ok (.invokestatic 65, 3) := by decide +kernel
theorem dc_Pi_makeRun_46 : decode mb_Pi_makeRun 46 = .ok (.istore 6, 2) := by decide +kernel
theorem dc_Pi_makeRun_48 : decode mb_Pi_makeRun 48 = .ok (.aload_n 1, 1) := by decide +kernel
theorem dc_Pi_makeRun_49 : decode mb_Pi_makeRun 49 = .ok (.aload_n 0, 1) := by decide +kernel
theorem dc_Pi_makeRun_50 : decode mb_Pi_makeRun 50 = .ok (.getfield 15, 3) := by decide +kernel
theorem dc_Pi_makeRun_53 : decode mb_Pi_makeRun 53 = .ok (.iload_n 2, 1) := by decide +kernel
theorem dc_Pi_makeRun_54 : decode mb_Pi_makeRun 54 = .ok (.iload 5, 2) := by decide +kernel
theorem dc_Pi_makeRun_56 : decode mb_Pi_makeRun 56 = .ok (.iload 6, 2) := by decide +kernel
theorem dc_Pi_makeRun_58 : decode mb_Pi_makeRun 58 = .ok (.invokestatic 71, 3) := by decide +kernel
theorem dc_Pi_makeRun_61 : decode mb_Pi_makeRun 61 = .ok (.iload 5, 2) := by decide +kernel
theorem dc_Pi_makeRun_63 : decode mb_Pi_makeRun 63 = .ok (.iload 6, 2) := by decide +kernel
theorem dc_Pi_makeRun_65 : decode mb_Pi_makeRun 65 = .ok (.invokestatic 77, 3) := by decide +kernel
theorem dc_Pi_makeRun_68 : decode mb_Pi_makeRun 68 = .ok (.ireturn, 1) := by decide +kernel
theorem dc_Pi_lengthOf_0 : decode mb_Pi_lengthOf 0 = .ok (.aload_n 0, 1) := by decide +kernel
theorem dc_Pi_lengthOf_1 : decode mb_Pi_lengthOf 1 = .ok (.getfield 19, 3) := by decide +kernel
theorem dc_Pi_lengthOf_4 : decode mb_Pi_lengthOf 4 = .ok (.iload_n 1, 1) := by decide +kernel
theorem dc_Pi_lengthOf_5 : decode mb_Pi_lengthOf 5 = .ok (.iconst 1, 1) := by decide +kernel
theorem dc_Pi_lengthOf_6 : decode mb_Pi_lengthOf 6 = .ok (.iadd, 1) := by decide +kernel
theorem dc_Pi_lengthOf_7 : decode mb_Pi_lengthOf 7 = .ok (.iaload, 1) := by decide +kernel
theorem dc_Pi_lengthOf_8 : decode mb_Pi_lengthOf 8 = .ok (.aload_n 0, 1) := by decide +kernel
theorem dc_Pi_lengthOf_9 : decode mb_Pi_lengthOf 9 = .ok (.getfield 19, 3) := by decide +kernel
theorem dc_Pi_lengthOf_12 : decode mb_Pi_lengthOf 12 = .ok (.iload_n 1, 1) := by decide +kernel
theorem dc_Pi_lengthOf_13 : decode mb_Pi_lengthOf 13 = .ok (.iaload, 1) := by decide +kernel
theorem dc_Pi_lengthOf_14 : decode mb_Pi_lengthOf 14 = .ok (.isub, 1) := by decide +kernel
theorem dc_Pi_lengthOf_15 : decode mb_Pi_lengthOf 15 = .ok (.ireturn, 1) := by decide +kernel
theorem dc_Pi_shorterOfLast_0 : decode mb_Pi_shorterOfLast 0 = .ok (.aload_n 0, 1) := by decide +kernel
theorem dc_Pi_shorterOfLast_1 : decode mb_Pi_shorterOfLast 1 = .ok (.getfield 23, 3) := by decide +kernel
theorem dc_Pi_shorterOfLast_4 : decode mb_Pi_shorterOfLast 4 = .ok (.iconst 1, 1) := by decide +kernel
theorem dc_Pi_shorterOfLast_5 : decode mb_Pi_shorterOfLast 5 = .ok (.isub, 1) := by decide +kernel
theorem dc_Pi_shorterOfLast_6 : decode mb_Pi_shorterOfLast 6 = .ok (.istore_n 1, 1) := by decide +kernel
theorem dc_Pi_shorterOfLast_7 : decode mb_Pi_shorterOfLast 7 = .ok (.iload_n 1, 1) := by decide +kernel
theorem dc_Pi_shorterOfLast_8 : decode mb_Pi_shorterOfLast 8 = .ok (.iconst 1, 1) := by decide +kernel
theorem dc_Pi_shorterOfLast_9 : decode mb_Pi_shorterOfLast 9 = .ok (.if_icmp .le 24, 3) := by decide +kernel
theorem dc_Pi_shorterOfLast_12 : decode mb_Pi_shorterOfLast 12 = .ok (.aload_n 0, 1) := by decide +kernel
theorem dc_Pi_shorterOfLast_13 : decode mb_Pi_shorterOfLast 13 = .ok (.iload_n 1, 1) := by decide +kernel
theorem dc_Pi_shorterOfLast_14 : decode mb_Pi_shorterOfLast 14 = .ok (.iconst 2, 1) := by decide +kernel
theorem dc_Pi_shorterOfLast_15 : decode mb_Pi_shorterOfLast 15 = .ok (.isub, 1) := by decide +kernel
theorem dc_Pi_shorterOfLast_16 : decode mb_Pi_shorterOfLast 16 = .ok (.invokevirtual 80, 3) := by decide +kernel
theorem dc_Pi_shorterOfLast_19 : decode mb_Pi_shorterOfLast 19 = .ok (.aload_n 0, 1) := by decide +kernel
theorem dc_Pi_shorterOfLast_20 : decode mb_Pi_shorterOfLast 20 = .ok (.iload_n 1, 1) := by decide +kernel
theorem dc_Pi_shorterOfLast_21 : decode mb_Pi_shorterOfLast 21 = .ok (.invokevirtual 80, 3) := by decide +kernel
theorem dc_Pi_shorterOfLast_24 : decode mb_Pi_shorterOfLast 24 = .ok (.if_icmp .ge 9, 3) := by decide +kernel
theorem dc_Pi_shorterOfLast_27 : decode mb_Pi_shorterOfLast 27 = .ok (.iload_n 1, 1) := by decide +kernel
theorem dc_Pi_shorterOfLast_28 : decode mb_Pi_shorterOfLast 28 = .ok (.iconst 2, 1) := by decide +kernel
theorem dc_Pi_shorterOfLast_29 : decode mb_Pi_shorterOfLast 29 = .ok (.isub, 1) := by decide +kernel
theorem dc_Pi_shorterOfLast_30 : decode mb_Pi_shorterOfLast 30 = .ok (.goto 6, 3) := by decide +kernel
theorem dc_Pi_shorterOfLast_33 : decode mb_Pi_shorterOfLast 33 = .ok (.iload_n 1, 1) := by decide +kernel
theorem dc_Pi_shorterOfLast_34 : decode mb_Pi_shorterOfLast 34 = .ok (.iconst 1, 1) := by decide +kernel
theorem dc_Pi_shorterOfLast_35 : decode mb_Pi_shorterOfLast 35 = .ok (.isub, 1) := by decide +kernel
theorem dc_Pi_shorterOfLast_36 : decode mb_Pi_shorterOfLast 36 = .ok (.ireturn, 1) := by decide +kernel
theorem dc_Pi_unevenRun_0 : decode mb_Pi_unevenRun 0 = .ok (.aload_n 0, 1) := by decide +kernel
theorem dc_Pi_unevenRun_1 : decode mb_Pi_unevenRun 1 = .ok (.getfield 23, 3) := by decide +kernel
theorem dc_Pi_unevenRun_4 : decode mb_Pi_unevenRun 4 = .ok (.iconst 1, 1) := by decide +kernel
theorem dc_Pi_unevenRun_5 : decode mb_Pi_unevenRun 5 = .ok (.isub, 1) := by decide +kernel
theorem dc_Pi_unevenRun_6 : decode mb_Pi_unevenRun 6 = .ok (.istore_n 1, 1) := by decide +kernel
theorem dc_Pi_unevenRun_7 : decode mb_Pi_unevenRun 7 = .ok (.iload_n 1, 1) := by decide +kernel
theorem dc_Pi_unevenRun_8 : decode mb_Pi_unevenRun 8 = .ok (.iconst 1, 1) := by decide +kernel
theorem dc_Pi_unevenRun_9 : decode mb_Pi_unevenRun 9 = .ok (.if_icmp .ge 5, 3) := by decide +kernel
theorem dc_Pi_unevenRun_12 : decode mb_Pi_unevenRun 12 = .ok (.iconst (-1), 1) := by decide +kernel
theorem dc_Pi_unevenRun_13 : decode mb_Pi_unevenRun 13 = .ok (.ireturn, 1) := by decide +kernel
theorem dc_Pi_unevenRun_14 : decode mb_Pi_unevenRun 14 = .ok (.iload_n 1, 1) := by decide +kernel
theorem dc_Pi_unevenRun_15 : decode mb_Pi_unevenRun 15 = .ok (.iconst 1, 1) := by decide +kernel
theorem dc_Pi_unevenRun_16 : decode mb_Pi_unevenRun 16 = .ok (.if_icmp .le 26, 3) := by decide +kernel
theorem dc_Pi_unevenRun_19 : decode mb_Pi_unevenRun 19 = .ok (.aload_n 0, 1) := by decide +kernel
theorem dc_Pi_unevenRun_20 : decode mb_Pi_unevenRun 20 = .ok (.iload_n 1, 1) := by decide +kernel
theorem dc_Pi_unevenRun_21 : decode mb_Pi_unevenRun 21 = .ok (.iconst 2, 1) := by decide +kernel
theorem dc_Pi_unevenRun_22 : decode mb_Pi_unevenRun 22 = .ok (.isub, 1) := by decide +kernel
theorem dc_Pi_unevenRun_23 : decode mb_Pi_unevenRun 23 = .ok (.invokevirtual 80, 3) := by decide +kernel
theorem dc_Pi_unevenRun_26 : decode mb_Pi_unevenRun 26 = .ok (.aload_n 0, 1) := by decide +kernel
theorem dc_Pi_unevenRun_27 : decode mb_Pi_unevenRun 27 = .ok (.iload_n 1, 1) := by decide +kernel
theorem dc_Pi_unevenRun_28 : decode mb_Pi_unevenRun 28 = .ok (.iconst 1, 1) := by decide +kernel
theorem dc_Pi_unevenRun_29 : decode mb_Pi_unevenRun 29 = .ok (.isub, 1) := by decide +kernel
theorem dc_Pi_unevenRun_30 : decode mb_Pi_unevenRun 30 = .ok (.invokevirtual 80, 3) := by decide +kernel
theorem dc_Pi_unevenRun_33 : decode mb_Pi_unevenRun 33 = .ok (.aload_n 0, 1) := by decide +kernel
theorem dc_Pi_unevenRun_34 : decode mb_Pi_unevenRun 34 = .ok (.iload_n 1, 1) := by decide +kernel
theorem dc_Pi_unevenRun_35 : decode mb_Pi_unevenRun 35 = .ok (.invokevirtual 80, 3) := by decide +kernel
theorem dc_Pi_unevenRun_38 : decode mb_Pi_unevenRun 38 = .ok (.iadd, 1) := by decide +kernel
theorem dc_Pi_unevenRun_39 : decode mb_Pi_unevenRun 39 = .ok (.if_icmp .le 33, 3) := by decide +kernel
theorem dc_Pi_unevenRun_42 : decode mb_Pi_unevenRun 42 = .ok (.iload_n 1, 1) := by decide +kernel
theorem dc_Pi_unevenRun_43 : decode mb_Pi_unevenRun 43 = .ok (.iconst 2, 1) := by decide +kernel
theorem dc_Pi_unevenRun_44 : decode mb_Pi_unevenRun 44 = .ok (.if_icmp .le 32, 3) := by decide +kernel
theorem dc_Pi_unevenRun_47 : decode mb_Pi_unevenRun 47 = .ok (.aload_n 0, 1) := by decide +kernel
theorem dc_Pi_unevenRun_48 : decode mb_Pi_unevenRun 48 = .ok (.iload_n 1, 1) := by decide +kernel
theorem dc_Pi_unevenRun_49 : decode mb_Pi_unevenRun 49 = .ok (.iconst 3, 1) := by decide +kernel
theorem dc_Pi_unevenRun_50 : decode mb_Pi_unevenRun 50 = .ok (.isub, 1) := by decide +kernel
theorem dc_Pi_unevenRun_51 : decode mb_Pi_unevenRun 51 = .ok (.invokevirtual 80, 3) := by decide +kernel
theorem dc_Pi_unevenRun_54 : decode mb_Pi_unevenRun 54 = .ok (.aload_n 0, 1) := by decide +kernel
theorem dc_Pi_unevenRun_55 : decode mb_Pi_unevenRun 55 = .ok (.iload_n 1, 1) := by decide +kernel
theorem dc_Pi_unevenRun_56 : decode mb_Pi_unevenRun 56 = .ok (.iconst 2, 1) := by decide +kernel
theorem dc_Pi_unevenRun_57 : decode mb_Pi_unevenRun 57 = .ok (.isub, 1) := by decide +kernel
theorem dc_Pi_unevenRun_58 : decode mb_Pi_unevenRun 58 = .ok (.invokevirtual 80, 3) := by decide +kernel
theorem dc_Pi_unevenRun_61 : decode mb_Pi_unevenRun 61 = .ok (.aload_n 0, 1) := by decide +kernel
theorem dc_Pi_unevenRun_62 : decode mb_Pi_unevenRun 62 = .ok (.iload_n 1, 1) := by decide +kernel
theorem dc_Pi_unevenRun_63 : decode mb_Pi_unevenRun 63 = .ok (.iconst 1, 1) := by decide +kernel
theorem dc_Pi_unevenRun_64 : decode mb_Pi_unevenRun 64 = .ok (.isub, 1) := by decide +kernel
theorem dc_Pi_unevenRun_65 : decode mb_Pi_unevenRun 65 = .ok (.invokevirtual 80, 3) := by decide +kernel
theorem dc_Pi_unevenRun_68 : decode mb_Pi_unevenRun 68 = .ok (.iadd, 1) := by decide +kernel
theorem dc_Pi_unevenRun_69 : decode mb_Pi_unevenRun 69 = .ok (.if_icmp .gt 7, 3) := by decide +kernel
theorem dc_Pi_unevenRun_72 : decode mb_Pi_unevenRun 72 = .ok (.iconst 1, 1) := by decide +kernel
theorem dc_Pi_unevenRun_73 : decode mb_Pi_unevenRun 73 = .ok (.goto 4, 3) := by decide +kernel
theorem dc_Pi_unevenRun_76 : decode mb_Pi_unevenRun 76 = .ok (.iconst 0, 1) := by decide +kernel
theorem dc_Pi_unevenRun_77 : decode mb_Pi_unevenRun 77 = .ok (.istore_n 2, 1) := by decide +kernel
theorem dc_Pi_unevenRun_78 : decode mb_Pi_unevenRun 78 = .ok (.iload_n 2, 1) := by decide +kernel
theorem dc_Pi_unevenRun_79 : decode mb_Pi_unevenRun 79 = .ok (.ifCond .eq 8, 3) := by decide +kernel
theorem dc_Pi_unevenRun_82 : decode mb_Pi_unevenRun 82 = .ok (.aload_n 0, 1) := by decide +kernel
theorem dc_Pi_unevenRun_83 : decode mb_Pi_unevenRun 83 = .ok (.invokevirtual 48, 3) := by decide +kernel
theorem dc_Pi_unevenRun_86 : decode mb_Pi_unevenRun 86 = .ok (.ireturn, 1) := by decide +kernel
theorem dc_Pi_unevenRun_87 : decode mb_Pi_unevenRun 87 = .ok (.aload_n 0, 1) := by decide +kernel
theorem dc_Pi_unevenRun_88 : decode mb_Pi_unevenRun 88 = .ok (.iload_n 1, 1) := by decide +kernel
theorem dc_Pi_unevenRun_89 : decode mb_Pi_unevenRun 89 = .ok (.iconst 1, 1) := by decide +kernel
theorem dc_Pi_unevenRun_90 : decode mb_Pi_unevenRun 90 = .ok (.isub, 1) := by decide +kernel
theorem dc_Pi_unevenRun_91 : decode mb_Pi_unevenRun 91 = .ok (.invokevirtual 80, 3) := by decide +kernel
theorem dc_Pi_unevenRun_94 : decode mb_Pi_unevenRun 94 = .ok (.aload_n 0, 1) := by decide +kernel
theorem dc_Pi_unevenRun_95 : decode mb_Pi_unevenRun 95 = .ok (.iload_n 1, 1) := by decide +kernel
theorem dc_Pi_unevenRun_96 : decode mb_Pi_unevenRun 96 = .ok (.invokevirtual 80, 3) := by decide +kernel
theorem dc_Pi_unevenRun_99 : decode mb_Pi_unevenRun 99 = .ok (.if_icmp .gt 9, 3) := by decide +kernel
theorem dc_Pi_unevenRun_102 : decode mb_Pi_unevenRun 102 = .ok (.iload_n 1, 1) := by decide +kernel
theorem dc_Pi_unevenRun_103 : decode mb_Pi_unevenRun 103 = .ok (.iconst 1, 1) := by decide +kernel
theorem dc_Pi_unevenRun_104 : decode mb_Pi_unevenRun 104 = .ok (.isub, 1) := by decide +kernel
theorem dc_Pi_unevenRun_105 : decode mb_Pi_unevenRun 105 = .ok (.goto 4, 3) := by decide +kernel
theorem dc_Pi_unevenRun_108 : decode mb_Pi_unevenRun 108 = .ok (.iconst (-1), 1) := by decide +kernel
theorem dc_Pi_unevenRun_109 : decode mb_Pi_unevenRun 109 = .ok (.ireturn, 1) := by decide +kernel
theorem nI_and1 : ∀ x, x < 1025 → nI x &&& nI 1 = nI (x % 2) := by decide +kernel
theorem nI_shr1 : ∀ x, x < 1025 → nI x >>> (nI 1 &&& 31) = nI (x / 2) := by decide +kernel
theorem nI_or1 {a b : Nat} (ha : a ≤ 1) (hb : b ≤ 1) : nI a ||| nI b = nI (max a b) := by
  rcases (show a = 0 ∨ a = 1 by omega) with e | e <;> rcases (show b = 0 ∨ b = 1 by omega) with e2 | e2 <;> subst e <;> subst e2 <;> decide
theorem zsm_5 (a : Nat) : ∀ n, zsm (fun _ => 5) a n = 5 * n
  | 0 => rfl
  | n + 1 => by show zsm (fun _ => 5) a n + 5 = _; rw [zsm_5 a n]; omega
theorem zs_rev {α : Type} (f : Nat → α) (a b : Nat) : zs (zrr f a b) a (b - a) = (zs f a (b - a)).reverse := by
  apply List.ext_getElem?
  intro i
  by_cases h : i < b - a
  · rw [zs_get _ _ h, List.getElem?_reverse (by rw [zs_len]; exact h), zs_len, zs_get _ _ (by omega)]
    unfold zrr
    rw [if_pos (by omega)]
    congr 2
    omega
  · rw [List.getElem?_eq_none (by rw [zs_len]; omega), List.getElem?_eq_none (by rw [List.length_reverse, zs_len]; omega)]
theorem zfall {α : Type} {r : α → Int} {f : Nat → α} {a b : Nat} (h : ∀ j, a < j → j < b → r (f j) < r (f (j - 1))) : zo r (zs (zrr f a b) a (b - a)) ∧ ze r (zs (zrr f a b) a (b - a)) (zs f a (b - a)) := by
  have k : ∀ d i, a ≤ i → i + d + 1 < b → r (f (i + d + 1)) < r (f i) := by
    intro d
    induction d with
    | zero => intro i h1 h2; exact h (i + 1) (by omega) h2
    | succ d ih =>
      intro i h1 h2
      have h3 := ih i h1 (by omega)
      have h4 := h (i + (d + 1) + 1) (by omega) h2
      rw [show i + (d + 1) + 1 - 1 = i + d + 1 by omega] at h4
      omega
  have k2 : ∀ i j, a ≤ i → i < j → j < b → r (f j) < r (f i) := fun i j h1 h2 h3 => by
    have := k (j - i - 1) i h1 (by omega)
    rwa [show i + (j - i - 1) + 1 = j by omega] at this
  constructor
  · refine zo_seg.mpr (fun i j h1 h2 h3 => ?_)
    unfold zrr
    rw [if_pos (by omega), if_pos (by omega)]
    have := k2 (a + b - 1 - j) (a + b - 1 - i) (by omega) (by omega) (by omega)
    omega
  · refine ze.perm ?_ (fun x hx y hy e => ?_)
    · rw [zs_rev]; exact List.reverse_perm _
    · rw [zs_rev, List.mem_reverse] at hx hy
      obtain ⟨i, hi, rfl⟩ := zs_mem.mp hx
      obtain ⟨j, hj, rfl⟩ := zs_mem.mp hy
      rcases Nat.lt_trichotomy i j with h1 | h1 | h1
      · have := k2 (a + i) (a + j) (by omega) (by omega) (by omega); omega
      · rw [h1]
      · have := k2 (a + j) (a + i) (by omega) (by omega) (by omega); omega
theorem zrise {α : Type} {r : α → Int} {f : Nat → α} {a b : Nat} (h : ∀ j, a < j → j < b → r (f (j - 1)) ≤ r (f j)) : zo r (zs f a (b - a)) := by
  have k : ∀ d i, a ≤ i → i + d + 1 < b → r (f i) ≤ r (f (i + d + 1)) := by
    intro d
    induction d with
    | zero => intro i h1 h2; exact h (i + 1) (by omega) h2
    | succ d ih =>
      intro i h1 h2
      have h3 := ih i h1 (by omega)
      have h4 := h (i + (d + 1) + 1) (by omega) h2
      rw [show i + (d + 1) + 1 - 1 = i + d + 1 by omega] at h4
      omega
  refine zo_seg.mpr (fun i j h1 h2 h3 => ?_)
  have := k (j - i - 1) i h1 (by omega)
  rwa [show i + (j - i - 1) + 1 = j by omega] at this
theorem ze_more {α : Type} {r : α → Int} {f g : Nat → α} {a s b : Nat} (has : a ≤ s) (hsb : s ≤ b) (h : ze r (zs f a (s - a)) (zs g a (s - a))) (ho : ∀ j, s ≤ j → f j = g j) : ze r (zs f a (b - a)) (zs g a (b - a)) := by
  have e : ∀ w : Nat → α, zs w a (b - a) = zs w a (s - a) ++ zs w s (b - s) := fun w => by
    rw [zs_split w a (show s - a ≤ b - a by omega), show a + (s - a) = s by omega, show b - a - (s - a) = b - s by omega]
  rw [e f, e g, show zs f s (b - s) = zs g s (b - s) from zs_congr (fun j hj => ho _ (by omega))]
  exact h.app (ze.rf _)
set_option maxHeartbeats 4000000 in
set_option maxRecDepth 100000 in
theorem ct_Pi_leastRun (l : Launch) (g : YG) (S : YS) (n : Nat) (hn : n ≤ 1024) : yC l mn_Pi_leastRun mb_Pi_leastRun 3 (some .int) 0 g [.int (nI (n))] S (fun v S' => ∃ m, v = some (.int (nI m)) ∧ S' = S ∧ m ≤ 32 ∧ (n < 32 → m = n) ∧ (32 ≤ n → 16 ≤ m)) := by
  refine yC_of (by decide) (Nat.le_of_ble_eq_true rfl) ?_
  intro o hl hg hB0 hE
  subst hl
  subst hg
  have hB : yB o mb_Pi_leastRun "OrderBench$Pile" := hB0
  have hm := hE.1
  show yW o (S) 0 [(0, .int (nI (n)))] []
  refine y_iload_n (pc' := 1) hB dc_Pi_leastRun_0 rfl rfl 0 rfl ?_
  refine y_istore_n (pc' := 2) (lv' := [(1, .int (nI (n))), (0, .int (nI (n)))]) hB hm dc_Pi_leastRun_1 rfl rfl (by decide) rfl ?_
  refine y_iconst (v := nI 0) (pc' := 3) hB dc_Pi_leastRun_2 rfl rfl ?_
  refine y_istore_n (pc' := 4) (lv' := [(2, .int (nI (0))), (1, .int (nI (n))), (0, .int (nI (n)))]) hB hm dc_Pi_leastRun_3 rfl rfl (by decide) rfl ?_
  have loop : ∀ (d : Nat) (rs od : Nat), rs < d → od ≤ 1 → rs ≤ n → (rs = n ∧ od = 0) ∨ (16 ≤ rs ∧ 32 ≤ n) → yW o (S) 4 [(2, .int (nI (od))), (1, .int (nI (rs))), (0, .int (nI (n)))] [] := by
    intro d
    induction d with
    | zero => intro rs od hd; omega
    | succ d ih =>
      intro rs od hd h1 h2 h3
      refine y_iload_n (pc' := 5) hB dc_Pi_leastRun_4 rfl rfl 1 rfl ?_
      refine y_bipush (v := nI 32) (pc' := 7) hB dc_Pi_leastRun_5 rfl (by decide) ?_
      refine n_icmp_lt (pc' := 10) (tg := 23) hB dc_Pi_leastRun_7 rfl rfl (by omega) (by omega) (fun h => ?_) (fun h => ?_)
      · refine y_iload_n (pc' := 24) hB dc_Pi_leastRun_23 rfl rfl 1 rfl ?_
        refine y_iload_n (pc' := 25) hB dc_Pi_leastRun_24 rfl rfl 0 rfl ?_
        refine n_iadd (x := rs) (y := od) (pc' := 26) hB dc_Pi_leastRun_25 rfl ?_
        exact y_iret hB hE dc_Pi_leastRun_26 ⟨rs + od, rfl, rfl, by omega, by omega, by omega⟩
      · refine y_iload_n (pc' := 11) hB dc_Pi_leastRun_10 rfl rfl 0 rfl ?_
        refine y_iload_n (pc' := 12) hB dc_Pi_leastRun_11 rfl rfl 1 rfl ?_
        refine y_iconst (v := nI 1) (pc' := 13) hB dc_Pi_leastRun_12 rfl rfl ?_
        refine y_iand (v := (nI (rs)) &&& (nI (1))) (pc' := 14) hB dc_Pi_leastRun_13 rfl rfl ?_
        refine y_topi (y := nI (rs % 2)) (nI_and1 rs (by omega)) ?_
        refine y_ior (v := (nI (od)) ||| (nI (rs % 2))) (pc' := 15) hB dc_Pi_leastRun_14 rfl rfl ?_
        refine y_topi (y := nI (max od (rs % 2))) (nI_or1 h1 (by omega)) ?_
        refine y_istore_n (pc' := 16) (lv' := [(2, .int (nI (max od (rs % 2)))), (1, .int (nI (rs))), (0, .int (nI (n)))]) hB hm dc_Pi_leastRun_15 rfl rfl (by decide) rfl ?_
        refine y_iload_n (pc' := 17) hB dc_Pi_leastRun_16 rfl rfl 1 rfl ?_
        refine y_iconst (v := nI 1) (pc' := 18) hB dc_Pi_leastRun_17 rfl rfl ?_
        refine y_ishr (v := (nI (rs)) >>> ((nI (1)) &&& 31)) (pc' := 19) hB dc_Pi_leastRun_18 rfl rfl ?_
        refine y_topi (y := nI (rs / 2)) (nI_shr1 rs (by omega)) ?_
        refine y_istore_n (pc' := 20) (lv' := [(1, .int (nI (rs / 2))), (2, .int (nI (max od (rs % 2)))), (0, .int (nI (n)))]) hB hm dc_Pi_leastRun_19 rfl rfl (by decide) rfl ?_
        refine y_goto (tg := 4) hB dc_Pi_leastRun_20 rfl ?_
        refine y_sub [1, 0, 2] rfl ?_
        exact ih (rs / 2) _ (by omega) (by omega) (by omega) (by omega)
  exact loop (n + 1) n 0 (by omega) (by omega) (Nat.le_refl _) (Or.inl ⟨rfl, rfl⟩)
set_option maxHeartbeats 4000000 in
set_option maxRecDepth 100000 in
theorem ct_Pi_makeRun (l : Launch) (g : YG) (S : YS) (od : Nat) (tg : Bool) (c : Nat) (hJ : yJ S od tg c) (r : Nat) (hr : r < 6) (n : Nat) (hn : n ≤ 1024) (hc : gF S (2 + r) 2 = nI n) (i : Nat) (hi : i < n) (le : Nat) (hle : le ≤ 32) : yC l mn_Pi_makeRun mb_Pi_makeRun 7 (some .int) 5 g [.ref (g.ad (21)), .ref (g.ad (2 + r)), .int (nI (i)), .int (nI (le))] S (fun v S' => ∃ e f' c', v = some (.int (nI e)) ∧ S' = yq (yz S r f') c' ∧ i < e ∧ e ≤ n ∧ (i + le ≤ e ∨ e = n) ∧ (∀ j, j < i ∨ e ≤ j → f' j = (ye S r) j) ∧ zo (zq od tg) (zs f' i (e - i)) ∧ ze (zq od tg) (zs f' i (e - i)) (zs (ye S r) i (e - i)) ∧ c' ≤ c + 7 * (e - i)) := by
  refine yC_of (by decide) (Nat.le_of_ble_eq_true rfl) ?_
  intro o hl hg hB0 hE
  subst hl
  subst hg
  have hB : yB o mb_Pi_makeRun "OrderBench$Pile" := hB0
  have hm := hE.1
  show yW o (S) 0 [(0, .ref (o.G.ad (21))), (1, .ref (o.G.ad (2 + r))), (2, .int (nI (i))), (3, .int (nI (le)))] []
  obtain ⟨F, hF⟩ : ∃ z, z = (ye S r) := ⟨_, rfl⟩
  refine y_aload_n (pc' := 1) hB dc_Pi_makeRun_0 rfl rfl 0 rfl ?_
  refine f_P_judge (pc' := 4) hB dc_Pi_makeRun_1 rfl q_90 ?_
  refine y_aload_n (pc' := 5) hB dc_Pi_makeRun_4 rfl rfl 1 rfl ?_
  refine y_iload_n (pc' := 6) hB dc_Pi_makeRun_5 rfl rfl 2 rfl ?_
  refine y_callV (c := 20) (ci := 2) (As := [.ref (o.G.ad (2 + r)), .int (nI (i))]) (rest := []) (pc' := 9) hB hE (ct_J_falls o.l o.G S od tg c hJ r hr n hn hc i (by omega)) mm_J_falls q_462 q_463 q_464 (by decide) rfl rfl dc_Pi_makeRun_6 rfl (by decide) rfl rfl (Nat.le_of_ble_eq_true rfl) (fun v S' hpost => ?_)
  obtain ⟨c1, rfl, rfl, m1⟩ := hpost
  rw [← hF]
  show yW o (yq S c1) 9 [(0, .ref (o.G.ad (21))), (1, .ref (o.G.ad (2 + r))), (2, .int (nI (i))), (3, .int (nI (le)))] [.int (yb (decide (i + 1 < n ∧ zq od tg (F (i + 1)) < zq od tg (F i))))]
  obtain ⟨fl, hfl⟩ : ∃ z, z = decide (i + 1 < n ∧ zq od tg (F (i + 1)) < zq od tg (F i)) := ⟨_, rfl⟩
  rw [← hfl]
  refine y_istore (pc' := 11) (lv' := [(4, .int (yb fl)), (0, .ref (o.G.ad (21))), (1, .ref (o.G.ad (2 + r))), (2, .int (nI (i))), (3, .int (nI (le)))]) hB hm dc_Pi_makeRun_9 rfl (by decide) rfl ?_
  refine y_aload_n (pc' := 12) hB dc_Pi_makeRun_11 rfl rfl 1 rfl ?_
  refine f_P_judge (pc' := 15) hB dc_Pi_makeRun_12 rfl q_90 ?_
  refine y_aload_n (pc' := 16) hB dc_Pi_makeRun_15 rfl rfl 2 rfl ?_
  refine y_iload_n (pc' := 17) hB dc_Pi_makeRun_16 rfl rfl 3 rfl ?_
  refine y_iload (pc' := 19) hB dc_Pi_makeRun_17 rfl 0 rfl ?_
  refine y_callV (c := 20) (ci := 2) (As := [.ref (o.G.ad (2 + r)), .int (nI (i)), .int (yb fl)]) (rest := []) (pc' := 22) hB hE (ct_J_runEnd o.l o.G (yq S c1) od tg c1 (yJ_yq hJ c1) r hr n hn ((gF_yq S c1 r hr).trans hc) i hi fl) mm_J_runEnd q_470 q_471 q_472 (by decide) rfl rfl dc_Pi_makeRun_19 rfl (by decide) rfl rfl (Nat.le_of_ble_eq_true rfl) (fun v S' hpost => ?_)
  obtain ⟨e1, c2, rfl, rfl, g1, g2, g3, g4, g5⟩ := hpost
  rw [ye_yq, ← hF] at g3
  rw [yq_yq]
  show yW o (yq S c2) 22 [(4, .int (yb fl)), (0, .ref (o.G.ad (21))), (1, .ref (o.G.ad (2 + r))), (2, .int (nI (i))), (3, .int (nI (le)))] [.int (nI (e1))]
  refine y_istore (pc' := 24) (lv' := [(5, .int (nI (e1))), (4, .int (yb fl)), (0, .ref (o.G.ad (21))), (1, .ref (o.G.ad (2 + r))), (2, .int (nI (i))), (3, .int (nI (le)))]) hB hm dc_Pi_makeRun_22 rfl (by decide) rfl ?_
  refine y_iload (pc' := 26) hB dc_Pi_makeRun_24 rfl 1 rfl ?_
  have rest : ∀ f1 : Nat → Int64 × Int32, (∀ j, j < i ∨ e1 ≤ j → f1 j = F j) → zo (zq od tg) (zs f1 i (e1 - i)) → ze (zq od tg) (zs f1 i (e1 - i)) (zs F i (e1 - i)) → yW o (yq (yz S r f1) c2) 36 [(5, .int (nI (e1))), (4, .int (yb fl)), (0, .ref (o.G.ad (21))), (1, .ref (o.G.ad (2 + r))), (2, .int (nI (i))), (3, .int (nI (le)))] [] := by
    intro f1 q1 q2 q3
    refine y_iload_n (pc' := 37) hB dc_Pi_makeRun_36 rfl rfl 4 rfl ?_
    refine y_iload_n (pc' := 38) hB dc_Pi_makeRun_37 rfl rfl 5 rfl ?_
    refine n_iadd (x := i) (y := le) (pc' := 39) hB dc_Pi_makeRun_38 rfl ?_
    refine y_aload_n (pc' := 40) hB dc_Pi_makeRun_39 rfl rfl 3 rfl ?_
    refine f_count (r := r) (pc' := 43) hB dc_Pi_makeRun_40 rfl (by omega) q_52 ?_
    refine y_topi (y := nI (n)) ((gF_yq (yz S r f1) c2 r hr).trans hc) ?_
    refine y_mmin (x := i + le) (y := n) (pc' := 46) hB hE dc_Pi_makeRun_43 rfl q_480 (by omega) (by omega) (Nat.le_of_ble_eq_true rfl) ?_
    obtain ⟨du, hdu⟩ : ∃ z, z = min (i + le) n := ⟨_, rfl⟩
    rw [← hdu]
    refine y_istore (pc' := 48) (lv' := [(6, .int (nI (du))), (5, .int (nI (e1))), (4, .int (yb fl)), (0, .ref (o.G.ad (21))), (1, .ref (o.G.ad (2 + r))), (2, .int (nI (i))), (3, .int (nI (le)))]) hB hm dc_Pi_makeRun_46 rfl (by decide) rfl ?_
    refine y_aload_n (pc' := 49) hB dc_Pi_makeRun_48 rfl rfl 4 rfl ?_
    refine y_aload_n (pc' := 50) hB dc_Pi_makeRun_49 rfl rfl 3 rfl ?_
    refine f_P_judge (pc' := 53) hB dc_Pi_makeRun_50 rfl q_90 ?_
    refine y_iload_n (pc' := 54) hB dc_Pi_makeRun_53 rfl rfl 5 rfl ?_
    refine y_iload (pc' := 56) hB dc_Pi_makeRun_54 rfl 1 rfl ?_
    refine y_iload (pc' := 58) hB dc_Pi_makeRun_56 rfl 0 rfl ?_
    refine y_callS (As := [.ref (o.G.ad (2 + r)), .ref (o.G.ad (20)), .int (nI (i)), .int (nI (e1)), .int (nI (du))]) (rest := []) (pc' := 61) hB hE (ct_In_arrange o.l o.G (yq (yz S r f1) c2) od tg c2 (yJ_yq (yJ_yz hJ r f1) c2) r hr i e1 du (by omega) (by omega) (by omega) (by rw [ye_yq, ye_yz]; exact q2) (fun _ => 5) (fun k k1 k2 => by omega)) mm_In_arrange q_481 q_369 dc_Pi_makeRun_58 rfl (by decide) rfl rfl (Nat.le_of_ble_eq_true rfl) (fun v S' hpost => ?_)
    obtain ⟨f3, c3, rfl, rfl, m2, m3, m4, m5⟩ := hpost
    rw [ye_yq, ye_yz] at m2 m4
    rw [zsm_5] at m5
    rw [yqz]
    show yW o (yq (yz S r f3) c3) 61 [(6, .int (nI (du))), (5, .int (nI (e1))), (4, .int (yb fl)), (0, .ref (o.G.ad (21))), (1, .ref (o.G.ad (2 + r))), (2, .int (nI (i))), (3, .int (nI (le)))] []
    refine y_iload (pc' := 63) hB dc_Pi_makeRun_61 rfl 1 rfl ?_
    refine y_iload (pc' := 65) hB dc_Pi_makeRun_63 rfl 0 rfl ?_
    refine y_mmax (x := e1) (y := du) (pc' := 68) hB hE dc_Pi_makeRun_65 rfl q_482 (by omega) (by omega) (Nat.le_of_ble_eq_true rfl) ?_
    refine y_iret hB hE dc_Pi_makeRun_68 ⟨max e1 du, f3, c3, rfl, rfl, by omega, by omega, by omega, fun j hj => ?_, m3, ?_, ?_⟩
    · rw [m2 j (by omega), q1 j (by omega), hF]
    · rw [← hF]
      exact m4.tr (ze_more (by omega) (by omega) q3 (fun j hj => q1 j (Or.inr hj)))
    · by_cases h9 : e1 < n
      · rw [if_pos h9] at g5; omega
      · rw [if_neg h9] at g5; omega
  refine y_if_eq (x := yb fl) (pc' := 29) (tg := 36) hB dc_Pi_makeRun_26 rfl rfl (fun hb1 => ?_) (fun hb1 => ?_)
  · have hf0 : fl = false := yb_0.mp hb1
    rw [hf0] at g3
    rw [hf0] at hfl
    have h1 := of_decide_eq_false hfl.symm
    have hk : ∀ j, i < j → j < e1 → zq od tg (F (j - 1)) ≤ zq od tg (F j) := by
      intro j k1 k2
      by_cases hj : j = i + 1
      · subst hj
        rw [Nat.add_sub_cancel]
        have h3 : ¬ zq od tg (F (i + 1)) < zq od tg (F i) := fun z => h1 ⟨by omega, z⟩
        omega
      · have h3 := of_decide_eq_false (g3 j (by omega) k2)
        omega
    have hz := rest F (fun _ _ => rfl) (zrise hk) (ze.rf _)
    rw [hF, yz_self] at hz
    exact hz
  · have hf0 : fl = true := yb_n.mp hb1
    rw [hf0] at g3
    rw [hf0] at hfl
    obtain ⟨h1, h2⟩ := of_decide_eq_true hfl.symm
    refine y_aload_n (pc' := 30) hB dc_Pi_makeRun_29 rfl rfl 3 rfl ?_
    refine y_iload_n (pc' := 31) hB dc_Pi_makeRun_30 rfl rfl 4 rfl ?_
    refine y_iload (pc' := 33) hB dc_Pi_makeRun_31 rfl 0 rfl ?_
    refine y_callV (c := 2 + r) (ci := 1) (As := [.int (nI (i)), .int (nI (e1))]) (rest := []) (pc' := 36) hB hE (ct_R_turnRound o.l o.G (yq S c2) r hr i e1 (by omega) (by omega)) mm_R_turnRound q_475 q_476 q_477 (by unfold yN; omega) (yk_row (by omega)).1 rfl dc_Pi_makeRun_33 rfl (by decide) rfl rfl (Nat.le_of_ble_eq_true rfl) (fun v S' hpost => ?_)
    obtain ⟨rfl, hSS⟩ := hpost
    rw [hSS]
    clear hSS S'
    show yW o (yz (yq S c2) r (zrr (ye (yq S c2) r) i e1)) 36 [(5, .int (nI (e1))), (4, .int (yb fl)), (0, .ref (o.G.ad (21))), (1, .ref (o.G.ad (2 + r))), (2, .int (nI (i))), (3, .int (nI (le)))] []
    rw [ye_yq, ← hF, show yz (yq S c2) r (zrr F i e1) = yq (yz S r (zrr F i e1)) c2 from rfl]
    have hk : ∀ j, i < j → j < e1 → zq od tg (F j) < zq od tg (F (j - 1)) := by
      intro j k1 k2
      by_cases hj : j = i + 1
      · subst hj; rw [Nat.add_sub_cancel]; exact h2
      · exact of_decide_eq_true (g3 j (by omega) k2)
    obtain ⟨k1, k2⟩ := zfall hk
    refine rest _ (fun j hj => ?_) k1 k2
    unfold zrr
    rw [if_neg (by omega)]
set_option maxHeartbeats 4000000 in
set_option maxRecDepth 100000 in
theorem ct_Pi_lengthOf (l : Launch) (g : YG) (S : YS) (k : Nat) (hk : k + 1 < 66) : yC l mn_Pi_lengthOf mb_Pi_lengthOf 2 (some .int) 0 g [.ref (g.ad (21)), .int (nI (k))] S (fun v S' => v = some (.int (gI S 22 (k + 1) - gI S 22 k)) ∧ S' = S) := by
  refine yC_of (by decide) (Nat.le_of_ble_eq_true rfl) ?_
  intro o hl hg hB0 hE
  subst hl
  subst hg
  have hB : yB o mb_Pi_lengthOf "OrderBench$Pile" := hB0
  have hm := hE.1
  show yW o (S) 0 [(0, .ref (o.G.ad (21))), (1, .int (nI (k)))] []
  refine y_aload_n (pc' := 1) hB dc_Pi_lengthOf_0 rfl rfl 0 rfl ?_
  refine f_P_borders (pc' := 4) hB dc_Pi_lengthOf_1 rfl q_91 ?_
  refine y_iload_n (pc' := 5) hB dc_Pi_lengthOf_4 rfl rfl 1 rfl ?_
  refine y_iconst (v := nI 1) (pc' := 6) hB dc_Pi_lengthOf_5 rfl rfl ?_
  refine n_iadd (x := k) (y := 1) (pc' := 7) hB dc_Pi_lengthOf_6 rfl ?_
  refine y_iald (c := 22) (n := 66) (j := k + 1) (pc' := 8) hB dc_Pi_lengthOf_7 rfl (by decide) rfl (by omega) (by decide) ?_
  refine y_aload_n (pc' := 9) hB dc_Pi_lengthOf_8 rfl rfl 0 rfl ?_
  refine f_P_borders (pc' := 12) hB dc_Pi_lengthOf_9 rfl q_91 ?_
  refine y_iload_n (pc' := 13) hB dc_Pi_lengthOf_12 rfl rfl 1 rfl ?_
  refine y_iald (c := 22) (n := 66) (j := k) (pc' := 14) hB dc_Pi_lengthOf_13 rfl (by decide) rfl (by omega) (by decide) ?_
  refine y_isub (v := (gI (S) (22) (k + 1)) - (gI (S) (22) (k))) (pc' := 15) hB dc_Pi_lengthOf_14 rfl rfl ?_
  exact y_iret hB hE dc_Pi_lengthOf_15 ⟨rfl, rfl⟩
set_option maxHeartbeats 4000000 in
set_option maxRecDepth 100000 in
theorem ct_Pi_shorterOfLast (l : Launch) (g : YG) (S : YS) (h : Nat) (hh : gF S 21 3 = nI h) (h2 : 2 ≤ h) (h65 : h ≤ 65) : yC l mn_Pi_shorterOfLast mb_Pi_shorterOfLast 2 (some .int) 1 g [.ref (g.ad (21))] S (fun v S' => ∃ t, v = some (.int (nI t)) ∧ S' = S ∧ t + 2 ≤ h) := by
  refine yC_of (by decide) (Nat.le_of_ble_eq_true rfl) ?_
  intro o hl hg hB0 hE
  subst hl
  subst hg
  have hB : yB o mb_Pi_shorterOfLast "OrderBench$Pile" := hB0
  have hm := hE.1
  show yW o (S) 0 [(0, .ref (o.G.ad (21)))] []
  refine y_aload_n (pc' := 1) hB dc_Pi_shorterOfLast_0 rfl rfl 0 rfl ?_
  refine f_P_height (pc' := 4) hB dc_Pi_shorterOfLast_1 rfl q_92 ?_
  refine y_topi (y := nI (h)) hh ?_
  refine y_iconst (v := nI 1) (pc' := 5) hB dc_Pi_shorterOfLast_4 rfl rfl ?_
  refine n_isub (x := h) (y := 1) (pc' := 6) hB dc_Pi_shorterOfLast_5 rfl (by omega) ?_
  refine y_istore_n (pc' := 7) (lv' := [(1, .int (nI (h - 1))), (0, .ref (o.G.ad (21)))]) hB hm dc_Pi_shorterOfLast_6 rfl rfl (by decide) rfl ?_
  refine y_iload_n (pc' := 8) hB dc_Pi_shorterOfLast_7 rfl rfl 0 rfl ?_
  refine y_iconst (v := nI 1) (pc' := 9) hB dc_Pi_shorterOfLast_8 rfl rfl ?_
  refine n_icmp_le (pc' := 12) (tg := 33) hB dc_Pi_shorterOfLast_9 rfl rfl (by omega) (by omega) (fun b1 => ?_) (fun b1 => ?_)
  · refine y_iload_n (pc' := 34) hB dc_Pi_shorterOfLast_33 rfl rfl 0 rfl ?_
    refine y_iconst (v := nI 1) (pc' := 35) hB dc_Pi_shorterOfLast_34 rfl rfl ?_
    refine n_isub (x := h - 1) (y := 1) (pc' := 36) hB dc_Pi_shorterOfLast_35 rfl (by omega) ?_
    exact y_iret hB hE dc_Pi_shorterOfLast_36 ⟨h - 1 - 1, rfl, rfl, by omega⟩
  · refine y_aload_n (pc' := 13) hB dc_Pi_shorterOfLast_12 rfl rfl 1 rfl ?_
    refine y_iload_n (pc' := 14) hB dc_Pi_shorterOfLast_13 rfl rfl 0 rfl ?_
    refine y_iconst (v := nI 2) (pc' := 15) hB dc_Pi_shorterOfLast_14 rfl rfl ?_
    refine n_isub (x := h - 1) (y := 2) (pc' := 16) hB dc_Pi_shorterOfLast_15 rfl (by omega) ?_
    refine y_callV (c := 21) (ci := 3) (As := [.int (nI ((h - 1) - 2))]) (rest := []) (pc' := 19) hB hE (ct_Pi_lengthOf o.l o.G S (h - 1 - 2) (by omega)) mm_Pi_lengthOf q_489 q_491 qs_4 (by decide) rfl rfl dc_Pi_shorterOfLast_16 rfl (by decide) rfl rfl (Nat.le_of_ble_eq_true rfl) (fun v S' hpost => ?_)
    obtain ⟨rfl, hSS⟩ := hpost
    rw [hSS]
    clear hSS S'
    show yW o (S) 19 [(1, .int (nI (h - 1))), (0, .ref (o.G.ad (21)))] [.int (gI S 22 (h - 1 - 2 + 1) - gI S 22 (h - 1 - 2))]
    refine y_aload_n (pc' := 20) hB dc_Pi_shorterOfLast_19 rfl rfl 1 rfl ?_
    refine y_iload_n (pc' := 21) hB dc_Pi_shorterOfLast_20 rfl rfl 0 rfl ?_
    refine y_callV (c := 21) (ci := 3) (As := [.int (nI (h - 1))]) (rest := [.int (gI S 22 (h - 1 - 2 + 1) - gI S 22 (h - 1 - 2))]) (pc' := 24) hB hE (ct_Pi_lengthOf o.l o.G S (h - 1) (by omega)) mm_Pi_lengthOf q_489 q_491 qs_4 (by decide) rfl rfl dc_Pi_shorterOfLast_21 rfl (by decide) rfl rfl (Nat.le_of_ble_eq_true rfl) (fun v S' hpost => ?_)
    obtain ⟨rfl, hSS⟩ := hpost
    rw [hSS]
    clear hSS S'
    show yW o (S) 24 [(1, .int (nI (h - 1))), (0, .ref (o.G.ad (21)))] [.int (gI S 22 (h - 1 + 1) - gI S 22 (h - 1)), .int (gI S 22 (h - 1 - 2 + 1) - gI S 22 (h - 1 - 2))]
    refine y_icmp_ge (x := gI S 22 (h - 1 - 2 + 1) - gI S 22 (h - 1 - 2)) (y := gI S 22 (h - 1 + 1) - gI S 22 (h - 1)) (pc' := 27) (tg := 33) hB dc_Pi_shorterOfLast_24 rfl rfl (fun b2 => ?_) (fun b2 => ?_)
    · refine y_iload_n (pc' := 34) hB dc_Pi_shorterOfLast_33 rfl rfl 0 rfl ?_
      refine y_iconst (v := nI 1) (pc' := 35) hB dc_Pi_shorterOfLast_34 rfl rfl ?_
      refine n_isub (x := h - 1) (y := 1) (pc' := 36) hB dc_Pi_shorterOfLast_35 rfl (by omega) ?_
      exact y_iret hB hE dc_Pi_shorterOfLast_36 ⟨h - 1 - 1, rfl, rfl, by omega⟩
    · refine y_iload_n (pc' := 28) hB dc_Pi_shorterOfLast_27 rfl rfl 0 rfl ?_
      refine y_iconst (v := nI 2) (pc' := 29) hB dc_Pi_shorterOfLast_28 rfl rfl ?_
      refine n_isub (x := h - 1) (y := 2) (pc' := 30) hB dc_Pi_shorterOfLast_29 rfl (by omega) ?_
      refine y_goto (tg := 36) hB dc_Pi_shorterOfLast_30 rfl ?_
      exact y_iret hB hE dc_Pi_shorterOfLast_36 ⟨h - 1 - 2, rfl, rfl, by omega⟩
set_option maxHeartbeats 4000000 in
set_option maxRecDepth 100000 in
theorem ct_Pi_unevenRun (l : Launch) (g : YG) (S : YS) (h : Nat) (hh : gF S 21 3 = nI h) (h1 : 1 ≤ h) (h65 : h ≤ 65) : yC l mn_Pi_unevenRun mb_Pi_unevenRun 3 (some .int) 2 g [.ref (g.ad (21))] S (fun v S' => ∃ x : Int32, v = some (.int x) ∧ S' = S ∧ (x = -1 ∨ ∃ t, x = nI t ∧ t + 2 ≤ h)) := by
  refine yC_of (by decide) (Nat.le_of_ble_eq_true rfl) ?_
  intro o hl hg hB0 hE
  subst hl
  subst hg
  have hB : yB o mb_Pi_unevenRun "OrderBench$Pile" := hB0
  have hm := hE.1
  show yW o (S) 0 [(0, .ref (o.G.ad (21)))] []
  have c87 : 2 ≤ h → yW o S 87 [(1, .int (nI (h - 1))), (0, .ref (o.G.ad (21)))] [] := by
    intro q
    refine y_aload_n (pc' := 88) hB dc_Pi_unevenRun_87 rfl rfl 1 rfl ?_
    refine y_iload_n (pc' := 89) hB dc_Pi_unevenRun_88 rfl rfl 0 rfl ?_
    refine y_iconst (v := nI 1) (pc' := 90) hB dc_Pi_unevenRun_89 rfl rfl ?_
    refine n_isub (x := h - 1) (y := 1) (pc' := 91) hB dc_Pi_unevenRun_90 rfl (by omega) ?_
    refine y_callV (c := 21) (ci := 3) (As := [.int (nI ((h - 1) - 1))]) (rest := []) (pc' := 94) hB hE (ct_Pi_lengthOf o.l o.G S (h - 1 - 1) (by omega)) mm_Pi_lengthOf q_489 q_491 qs_4 (by decide) rfl rfl dc_Pi_unevenRun_91 rfl (by decide) rfl rfl (Nat.le_of_ble_eq_true rfl) (fun v S' hpost => ?_)
    obtain ⟨rfl, hSS⟩ := hpost
    rw [hSS]
    clear hSS S'
    show yW o (S) 94 [(1, .int (nI (h - 1))), (0, .ref (o.G.ad (21)))] [.int (gI S 22 (h - 1 - 1 + 1) - gI S 22 (h - 1 - 1))]
    refine y_aload_n (pc' := 95) hB dc_Pi_unevenRun_94 rfl rfl 1 rfl ?_
    refine y_iload_n (pc' := 96) hB dc_Pi_unevenRun_95 rfl rfl 0 rfl ?_
    refine y_callV (c := 21) (ci := 3) (As := [.int (nI (h - 1))]) (rest := [.int (gI S 22 (h - 1 - 1 + 1) - gI S 22 (h - 1 - 1))]) (pc' := 99) hB hE (ct_Pi_lengthOf o.l o.G S (h - 1) (by omega)) mm_Pi_lengthOf q_489 q_491 qs_4 (by decide) rfl rfl dc_Pi_unevenRun_96 rfl (by decide) rfl rfl (Nat.le_of_ble_eq_true rfl) (fun v S' hpost => ?_)
    obtain ⟨rfl, hSS⟩ := hpost
    rw [hSS]
    clear hSS S'
    show yW o (S) 99 [(1, .int (nI (h - 1))), (0, .ref (o.G.ad (21)))] [.int (gI S 22 (h - 1 + 1) - gI S 22 (h - 1)), .int (gI S 22 (h - 1 - 1 + 1) - gI S 22 (h - 1 - 1))]
    refine y_icmp_gt (x := gI S 22 (h - 1 - 1 + 1) - gI S 22 (h - 1 - 1)) (y := gI S 22 (h - 1 + 1) - gI S 22 (h - 1)) (pc' := 102) (tg := 108) hB dc_Pi_unevenRun_99 rfl rfl (fun b1 => ?_) (fun b1 => ?_)
    · refine y_iconst (v := -1) (pc' := 109) hB dc_Pi_unevenRun_108 rfl rfl ?_
      exact y_iret hB hE dc_Pi_unevenRun_109 ⟨-1, rfl, rfl, Or.inl rfl⟩
    · refine y_iload_n (pc' := 103) hB dc_Pi_unevenRun_102 rfl rfl 0 rfl ?_
      refine y_iconst (v := nI 1) (pc' := 104) hB dc_Pi_unevenRun_103 rfl rfl ?_
      refine n_isub (x := h - 1) (y := 1) (pc' := 105) hB dc_Pi_unevenRun_104 rfl (by omega) ?_
      refine y_goto (tg := 109) hB dc_Pi_unevenRun_105 rfl ?_
      exact y_iret hB hE dc_Pi_unevenRun_109 ⟨nI (h - 1 - 1), rfl, rfl, Or.inr ⟨_, rfl, by omega⟩⟩
  have c76 : 2 ≤ h → yW o S 76 [(1, .int (nI (h - 1))), (0, .ref (o.G.ad (21)))] [] := by
    intro q
    refine y_iconst (v := nI 0) (pc' := 77) hB dc_Pi_unevenRun_76 rfl rfl ?_
    refine y_istore_n (pc' := 78) (lv' := [(2, .int (nI (0))), (1, .int (nI (h - 1))), (0, .ref (o.G.ad (21)))]) hB hm dc_Pi_unevenRun_77 rfl rfl (by decide) rfl ?_
    refine y_iload_n (pc' := 79) hB dc_Pi_unevenRun_78 rfl rfl 0 rfl ?_
    refine n_if_eq (pc' := 82) (tg := 87) hB dc_Pi_unevenRun_79 rfl rfl (by omega) (fun b1 => ?_) (fun b1 => ?_)
    · refine y_sub [1, 2] rfl ?_
      exact c87 q
    · exact absurd b1 (by decide)
  have c72 : 2 ≤ h → yW o S 72 [(1, .int (nI (h - 1))), (0, .ref (o.G.ad (21)))] [] := by
    intro q
    refine y_iconst (v := nI 1) (pc' := 73) hB dc_Pi_unevenRun_72 rfl rfl ?_
    refine y_goto (tg := 77) hB dc_Pi_unevenRun_73 rfl ?_
    refine y_istore_n (pc' := 78) (lv' := [(2, .int (nI (1))), (1, .int (nI (h - 1))), (0, .ref (o.G.ad (21)))]) hB hm dc_Pi_unevenRun_77 rfl rfl (by decide) rfl ?_
    refine y_iload_n (pc' := 79) hB dc_Pi_unevenRun_78 rfl rfl 0 rfl ?_
    refine n_if_eq (pc' := 82) (tg := 87) hB dc_Pi_unevenRun_79 rfl rfl (by omega) (fun b1 => ?_) (fun b1 => ?_)
    · exact absurd b1 (by decide)
    · refine y_aload_n (pc' := 83) hB dc_Pi_unevenRun_82 rfl rfl 2 rfl ?_
      refine y_callV (c := 21) (ci := 3) (As := []) (rest := []) (pc' := 86) hB hE (ct_Pi_shorterOfLast o.l o.G S h hh q h65) mm_Pi_shorterOfLast q_493 q_495 qs_5 (by decide) rfl rfl dc_Pi_unevenRun_83 rfl (by decide) rfl rfl (Nat.le_of_ble_eq_true rfl) (fun v S' hpost => ?_)
      obtain ⟨t, rfl, hSS, m1⟩ := hpost
      rw [hSS]
      clear hSS S'
      show yW o (S) 86 [(2, .int (nI (1))), (1, .int (nI (h - 1))), (0, .ref (o.G.ad (21)))] [.int (nI (t))]
      exact y_iret hB hE dc_Pi_unevenRun_86 ⟨nI t, rfl, rfl, Or.inr ⟨_, rfl, m1⟩⟩
  have c42 : 2 ≤ h → yW o S 42 [(1, .int (nI (h - 1))), (0, .ref (o.G.ad (21)))] [] := by
    intro q
    refine y_iload_n (pc' := 43) hB dc_Pi_unevenRun_42 rfl rfl 0 rfl ?_
    refine y_iconst (v := nI 2) (pc' := 44) hB dc_Pi_unevenRun_43 rfl rfl ?_
    refine n_icmp_le (pc' := 47) (tg := 76) hB dc_Pi_unevenRun_44 rfl rfl (by omega) (by omega) (fun b1 => ?_) (fun b1 => ?_)
    · exact c76 q
    · refine y_aload_n (pc' := 48) hB dc_Pi_unevenRun_47 rfl rfl 1 rfl ?_
      refine y_iload_n (pc' := 49) hB dc_Pi_unevenRun_48 rfl rfl 0 rfl ?_
      refine y_iconst (v := nI 3) (pc' := 50) hB dc_Pi_unevenRun_49 rfl rfl ?_
      refine n_isub (x := h - 1) (y := 3) (pc' := 51) hB dc_Pi_unevenRun_50 rfl (by omega) ?_
      refine y_callV (c := 21) (ci := 3) (As := [.int (nI ((h - 1) - 3))]) (rest := []) (pc' := 54) hB hE (ct_Pi_lengthOf o.l o.G S (h - 1 - 3) (by omega)) mm_Pi_lengthOf q_489 q_491 qs_4 (by decide) rfl rfl dc_Pi_unevenRun_51 rfl (by decide) rfl rfl (Nat.le_of_ble_eq_true rfl) (fun v S' hpost => ?_)
      obtain ⟨rfl, hSS⟩ := hpost
      rw [hSS]
      clear hSS S'
      show yW o (S) 54 [(1, .int (nI (h - 1))), (0, .ref (o.G.ad (21)))] [.int (gI S 22 (h - 1 - 3 + 1) - gI S 22 (h - 1 - 3))]
      refine y_aload_n (pc' := 55) hB dc_Pi_unevenRun_54 rfl rfl 1 rfl ?_
      refine y_iload_n (pc' := 56) hB dc_Pi_unevenRun_55 rfl rfl 0 rfl ?_
      refine y_iconst (v := nI 2) (pc' := 57) hB dc_Pi_unevenRun_56 rfl rfl ?_
      refine n_isub (x := h - 1) (y := 2) (pc' := 58) hB dc_Pi_unevenRun_57 rfl (by omega) ?_
      refine y_callV (c := 21) (ci := 3) (As := [.int (nI ((h - 1) - 2))]) (rest := [.int (gI S 22 (h - 1 - 3 + 1) - gI S 22 (h - 1 - 3))]) (pc' := 61) hB hE (ct_Pi_lengthOf o.l o.G S (h - 1 - 2) (by omega)) mm_Pi_lengthOf q_489 q_491 qs_4 (by decide) rfl rfl dc_Pi_unevenRun_58 rfl (by decide) rfl rfl (Nat.le_of_ble_eq_true rfl) (fun v S' hpost => ?_)
      obtain ⟨rfl, hSS⟩ := hpost
      rw [hSS]
      clear hSS S'
      show yW o (S) 61 [(1, .int (nI (h - 1))), (0, .ref (o.G.ad (21)))] [.int (gI S 22 (h - 1 - 2 + 1) - gI S 22 (h - 1 - 2)), .int (gI S 22 (h - 1 - 3 + 1) - gI S 22 (h - 1 - 3))]
      refine y_aload_n (pc' := 62) hB dc_Pi_unevenRun_61 rfl rfl 1 rfl ?_
      refine y_iload_n (pc' := 63) hB dc_Pi_unevenRun_62 rfl rfl 0 rfl ?_
      refine y_iconst (v := nI 1) (pc' := 64) hB dc_Pi_unevenRun_63 rfl rfl ?_
      refine n_isub (x := h - 1) (y := 1) (pc' := 65) hB dc_Pi_unevenRun_64 rfl (by omega) ?_
      refine y_callV (c := 21) (ci := 3) (As := [.int (nI ((h - 1) - 1))]) (rest := [.int (gI S 22 (h - 1 - 2 + 1) - gI S 22 (h - 1 - 2)), .int (gI S 22 (h - 1 - 3 + 1) - gI S 22 (h - 1 - 3))]) (pc' := 68) hB hE (ct_Pi_lengthOf o.l o.G S (h - 1 - 1) (by omega)) mm_Pi_lengthOf q_489 q_491 qs_4 (by decide) rfl rfl dc_Pi_unevenRun_65 rfl (by decide) rfl rfl (Nat.le_of_ble_eq_true rfl) (fun v S' hpost => ?_)
      obtain ⟨rfl, hSS⟩ := hpost
      rw [hSS]
      clear hSS S'
      show yW o (S) 68 [(1, .int (nI (h - 1))), (0, .ref (o.G.ad (21)))] [.int (gI S 22 (h - 1 - 1 + 1) - gI S 22 (h - 1 - 1)), .int (gI S 22 (h - 1 - 2 + 1) - gI S 22 (h - 1 - 2)), .int (gI S 22 (h - 1 - 3 + 1) - gI S 22 (h - 1 - 3))]
      refine y_iadd (v := (gI S 22 (h - 1 - 2 + 1) - gI S 22 (h - 1 - 2)) + (gI S 22 (h - 1 - 1 + 1) - gI S 22 (h - 1 - 1))) (pc' := 69) hB dc_Pi_unevenRun_68 rfl rfl ?_
      refine y_icmp_gt (x := gI S 22 (h - 1 - 3 + 1) - gI S 22 (h - 1 - 3)) (y := (gI S 22 (h - 1 - 2 + 1) - gI S 22 (h - 1 - 2)) + (gI S 22 (h - 1 - 1 + 1) - gI S 22 (h - 1 - 1))) (pc' := 72) (tg := 76) hB dc_Pi_unevenRun_69 rfl rfl (fun b2 => ?_) (fun b2 => ?_)
      · exact c76 q
      · exact c72 q
  refine y_aload_n (pc' := 1) hB dc_Pi_unevenRun_0 rfl rfl 0 rfl ?_
  refine f_P_height (pc' := 4) hB dc_Pi_unevenRun_1 rfl q_92 ?_
  refine y_topi (y := nI (h)) hh ?_
  refine y_iconst (v := nI 1) (pc' := 5) hB dc_Pi_unevenRun_4 rfl rfl ?_
  refine n_isub (x := h) (y := 1) (pc' := 6) hB dc_Pi_unevenRun_5 rfl (by omega) ?_
  refine y_istore_n (pc' := 7) (lv' := [(1, .int (nI (h - 1))), (0, .ref (o.G.ad (21)))]) hB hm dc_Pi_unevenRun_6 rfl rfl (by decide) rfl ?_
  refine y_iload_n (pc' := 8) hB dc_Pi_unevenRun_7 rfl rfl 0 rfl ?_
  refine y_iconst (v := nI 1) (pc' := 9) hB dc_Pi_unevenRun_8 rfl rfl ?_
  refine n_icmp_ge (pc' := 12) (tg := 14) hB dc_Pi_unevenRun_9 rfl rfl (by omega) (by omega) (fun b1 => ?_) (fun b1 => ?_)
  · refine y_iload_n (pc' := 15) hB dc_Pi_unevenRun_14 rfl rfl 0 rfl ?_
    refine y_iconst (v := nI 1) (pc' := 16) hB dc_Pi_unevenRun_15 rfl rfl ?_
    refine n_icmp_le (pc' := 19) (tg := 42) hB dc_Pi_unevenRun_16 rfl rfl (by omega) (by omega) (fun b2 => ?_) (fun b2 => ?_)
    · exact c42 (by omega)
    · refine y_aload_n (pc' := 20) hB dc_Pi_unevenRun_19 rfl rfl 1 rfl ?_
      refine y_iload_n (pc' := 21) hB dc_Pi_unevenRun_20 rfl rfl 0 rfl ?_
      refine y_iconst (v := nI 2) (pc' := 22) hB dc_Pi_unevenRun_21 rfl rfl ?_
      refine n_isub (x := h - 1) (y := 2) (pc' := 23) hB dc_Pi_unevenRun_22 rfl (by omega) ?_
      refine y_callV (c := 21) (ci := 3) (As := [.int (nI ((h - 1) - 2))]) (rest := []) (pc' := 26) hB hE (ct_Pi_lengthOf o.l o.G S (h - 1 - 2) (by omega)) mm_Pi_lengthOf q_489 q_491 qs_4 (by decide) rfl rfl dc_Pi_unevenRun_23 rfl (by decide) rfl rfl (Nat.le_of_ble_eq_true rfl) (fun v S' hpost => ?_)
      obtain ⟨rfl, hSS⟩ := hpost
      rw [hSS]
      clear hSS S'
      show yW o (S) 26 [(1, .int (nI (h - 1))), (0, .ref (o.G.ad (21)))] [.int (gI S 22 (h - 1 - 2 + 1) - gI S 22 (h - 1 - 2))]
      refine y_aload_n (pc' := 27) hB dc_Pi_unevenRun_26 rfl rfl 1 rfl ?_
      refine y_iload_n (pc' := 28) hB dc_Pi_unevenRun_27 rfl rfl 0 rfl ?_
      refine y_iconst (v := nI 1) (pc' := 29) hB dc_Pi_unevenRun_28 rfl rfl ?_
      refine n_isub (x := h - 1) (y := 1) (pc' := 30) hB dc_Pi_unevenRun_29 rfl (by omega) ?_
      refine y_callV (c := 21) (ci := 3) (As := [.int (nI ((h - 1) - 1))]) (rest := [.int (gI S 22 (h - 1 - 2 + 1) - gI S 22 (h - 1 - 2))]) (pc' := 33) hB hE (ct_Pi_lengthOf o.l o.G S (h - 1 - 1) (by omega)) mm_Pi_lengthOf q_489 q_491 qs_4 (by decide) rfl rfl dc_Pi_unevenRun_30 rfl (by decide) rfl rfl (Nat.le_of_ble_eq_true rfl) (fun v S' hpost => ?_)
      obtain ⟨rfl, hSS⟩ := hpost
      rw [hSS]
      clear hSS S'
      show yW o (S) 33 [(1, .int (nI (h - 1))), (0, .ref (o.G.ad (21)))] [.int (gI S 22 (h - 1 - 1 + 1) - gI S 22 (h - 1 - 1)), .int (gI S 22 (h - 1 - 2 + 1) - gI S 22 (h - 1 - 2))]
      refine y_aload_n (pc' := 34) hB dc_Pi_unevenRun_33 rfl rfl 1 rfl ?_
      refine y_iload_n (pc' := 35) hB dc_Pi_unevenRun_34 rfl rfl 0 rfl ?_
      refine y_callV (c := 21) (ci := 3) (As := [.int (nI (h - 1))]) (rest := [.int (gI S 22 (h - 1 - 1 + 1) - gI S 22 (h - 1 - 1)), .int (gI S 22 (h - 1 - 2 + 1) - gI S 22 (h - 1 - 2))]) (pc' := 38) hB hE (ct_Pi_lengthOf o.l o.G S (h - 1) (by omega)) mm_Pi_lengthOf q_489 q_491 qs_4 (by decide) rfl rfl dc_Pi_unevenRun_35 rfl (by decide) rfl rfl (Nat.le_of_ble_eq_true rfl) (fun v S' hpost => ?_)
      obtain ⟨rfl, hSS⟩ := hpost
      rw [hSS]
      clear hSS S'
      show yW o (S) 38 [(1, .int (nI (h - 1))), (0, .ref (o.G.ad (21)))] [.int (gI S 22 (h - 1 + 1) - gI S 22 (h - 1)), .int (gI S 22 (h - 1 - 1 + 1) - gI S 22 (h - 1 - 1)), .int (gI S 22 (h - 1 - 2 + 1) - gI S 22 (h - 1 - 2))]
      refine y_iadd (v := (gI S 22 (h - 1 - 1 + 1) - gI S 22 (h - 1 - 1)) + (gI S 22 (h - 1 + 1) - gI S 22 (h - 1))) (pc' := 39) hB dc_Pi_unevenRun_38 rfl rfl ?_
      refine y_icmp_le (x := gI S 22 (h - 1 - 2 + 1) - gI S 22 (h - 1 - 2)) (y := (gI S 22 (h - 1 - 1 + 1) - gI S 22 (h - 1 - 1)) + (gI S 22 (h - 1 + 1) - gI S 22 (h - 1))) (pc' := 42) (tg := 72) hB dc_Pi_unevenRun_39 rfl rfl (fun b3 => ?_) (fun b3 => ?_)
      · exact c72 (by omega)
      · exact c42 (by omega)
  · refine y_iconst (v := -1) (pc' := 13) hB dc_Pi_unevenRun_12 rfl rfl ?_
    exact y_iret hB hE dc_Pi_unevenRun_13 ⟨-1, rfl, rfl, Or.inl rfl⟩
