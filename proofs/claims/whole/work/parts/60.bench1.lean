/-! BENCH: helpers -/
theorem dc_B_doublings_0 : decode mb_B_doublings 0 = .ok (.iconst 0, 1) := by decide +kernel
theorem dc_B_doublings_1 : decode mb_B_doublings 1 = .ok (.istore_n 1, 1) := by decide +kernel
theorem dc_B_doublings_2 : decode mb_B_doublings 2 = .ok (.iload_n 1, 1) := by decide +kernel
theorem dc_B_doublings_3 : decode mb_B_doublings 3 = .ok (.bipush 30, 2) := by decide +kernel
theorem dc_B_doublings_5 : decode mb_B_doublings 5 = .ok (.if_icmp .ge 16, 3) := by decide +kernel
theorem dc_B_doublings_8 : decode mb_B_doublings 8 = .ok (.iconst 1, 1) := by decide +kernel
theorem dc_B_doublings_9 : decode mb_B_doublings 9 = .ok (.iload_n 1, 1) := by decide +kernel
theorem dc_B_doublings_10 : decode mb_B_doublings 10 = .ok (.ishl, 1) := by decide +kernel
theorem dc_B_doublings_11 : decode mb_B_doublings 11 = .ok (.iload_n 0, 1) := by decide +kernel
theorem dc_B_doublings_12 : decode mb_B_doublings 12 = .ok (.if_icmp .ge 9, 3) := by decide +kernel
theorem dc_B_doublings_15 : decode mb_B_doublings 15 = .ok (.iinc 1 1, 3) := by decide +kernel
theorem dc_B_doublings_18 : decode mb_B_doublings 18 = .ok (.goto (-16), 3) := by decide +kernel
theorem dc_B_doublings_21 : decode mb_B_doublings 21 = .ok (.iload_n 1, 1) := by decide +kernel
theorem dc_B_doublings_22 : decode mb_B_doublings 22 = .ok (.ireturn, 1) := by decide +kernel
theorem dc_B_mostComparisons_0 : decode mb_B_mostComparisons 0 = .ok (.iload_n 0, 1) := by decide +kernel
theorem dc_B_mostComparisons_1 : decode mb_B_mostComparisons 1 = .ok (.lookupswitch 49 #[(0, 35), (3, 43), (6, 47)], 35) := by decide +kernel
theorem dc_B_mostComparisons_36 : decode mb_B_mostComparisons 36 = .ok (.iload_n 1, 1) := by decide +kernel
theorem dc_B_mostComparisons_37 : decode mb_B_mostComparisons 37 = .ok (.iload_n 1, 1) := by decide +kernel
theorem dc_B_mostComparisons_38 : decode mb_B_mostComparisons 38 = .ok (.iconst 1, 1) := by decide +kernel
theorem dc_B_mostComparisons_39 : decode mb_B_mostComparisons 39 = .ok (.isub, 1) := by decide +kernel
theorem dc_B_mostComparisons_40 : decode mb_B_mostComparisons 40 = .ok (.imul, 1) := by decide +kernel
theorem dc_B_mostComparisons_41 : decode mb_B_mostComparisons 41 = .ok (.iconst 2, 1) := by decide +kernel
theorem dc_B_mostComparisons_42 : decode mb_B_mostComparisons 42 = .ok (.idiv, 1) := by decide +kernel
theorem dc_B_mostComparisons_43 : decode mb_B_mostComparisons 43 = .ok (.ireturn, 1) := by decide +kernel
theorem dc_B_mostComparisons_44 : decode mb_B_mostComparisons 44 = .ok (.iload_n 1, 1) := by decide +kernel
theorem dc_B_mostComparisons_45 : decode mb_B_mostComparisons 45 = .ok (.iload_n 1, 1) := by decide +kernel
theorem dc_B_mostComparisons_46 : decode mb_B_mostComparisons 46 = .ok (.imul, 1) := by decide +kernel
theorem dc_B_mostComparisons_47 : decode mb_B_mostComparisons 47 = .ok (.ireturn, 1) := by decide +kernel
theorem dc_B_mostComparisons_48 : decode mb_B_mostComparisons 48 = .ok (.iconst 0, 1) := by decide +kernel
theorem dc_B_mostComparisons_49 : decode mb_B_mostComparisons 49 = .ok (.ireturn, 1) := by decide +kernel
theorem dc_B_mostComparisons_50 : decode mb_B_mostComparisons 50 = .ok (.bipush 8, 2) := by decide +kernel
theorem dc_B_mostComparisons_52 : decode mb_B_mostComparisons 52 = .ok (.iload_n 1, 1) := by decide +kernel
theorem dc_B_mostComparisons_53 : decode mb_B_mostComparisons 53 = .ok (.imul, 1) := by decide +kernel
theorem dc_B_mostComparisons_54 : decode mb_B_mostComparisons 54 = .ok (.iload_n 1, 1) := by decide +kernel
theorem dc_B_mostComparisons_55 : decode mb_B_mostComparisons 55 = .ok (.invokestatic 132, 3) := by decide +kernel
theorem dc_B_mostComparisons_58 : decode mb_B_mostComparisons 58 = .ok (.iconst 2, 1) := by decide +kernel
theorem dc_B_mostComparisons_59 : decode mb_B_mostComparisons 59 = .ok (.iadd, 1) := by decide +kernel
theorem dc_B_mostComparisons_60 : decode mb_B_mostComparisons 60 = .ok (.imul, 1) := by decide +kernel
theorem dc_B_mostComparisons_61 : decode mb_B_mostComparisons 61 = .ok (.ireturn, 1) := by decide +kernel
theorem dc_B_isSteady_0 : decode mb_B_isSteady 0 = .ok (.iload_n 0, 1) := by decide +kernel
theorem dc_B_isSteady_1 : decode mb_B_isSteady 1 = .ok (.ifCond .eq 19, 3) := by decide +kernel
theorem dc_B_isSteady_4 : decode mb_B_isSteady 4 = .ok (.iload_n 0, 1) := by decide +kernel
theorem dc_B_isSteady_5 : decode mb_B_isSteady 5 = .ok (.iconst 4, 1) := by decide +kernel
theorem dc_B_isSteady_6 : decode mb_B_isSteady 6 = .ok (.if_icmp .eq 14, 3) := by decide +kernel
theorem dc_B_isSteady_9 : decode mb_B_isSteady 9 = .ok (.iload_n 0, 1) := by decide +kernel
theorem dc_B_isSteady_10 : decode mb_B_isSteady 10 = .ok (.iconst 5, 1) := by decide +kernel
theorem dc_B_isSteady_11 : decode mb_B_isSteady 11 = .ok (.if_icmp .eq 9, 3) := by decide +kernel
theorem dc_B_isSteady_14 : decode mb_B_isSteady 14 = .ok (.iload_n 0, 1) := by decide +kernel
theorem dc_B_isSteady_15 : decode mb_B_isSteady 15 = .ok (.bipush 6, 2) := by decide +kernel
theorem dc_B_isSteady_17 : decode mb_B_isSteady 17 = .ok (.if_icmp .ne 7, 3) := by decide +kernel
theorem dc_B_isSteady_20 : decode mb_B_isSteady 20 = .ok (.iconst 1, 1) := by decide +kernel
theorem dc_B_isSteady_21 : decode mb_B_isSteady 21 = .ok (.goto 4, 3) := by decide +kernel
theorem dc_B_isSteady_24 : decode mb_B_isSteady 24 = .ok (.iconst 0, 1) := by decide +kernel
theorem dc_B_isSteady_25 : decode mb_B_isSteady 25 = .ok (.ireturn, 1) := by decide +kernel
theorem dc_B_scattered_0 : decode mb_B_scattered 0 = .ok (.lload_n 0, 1) := by decide +kernel
theorem dc_B_scattered_1 : decode mb_B_scattered 1 = .ok (.iload_n 2, 1) := by decide +kernel
theorem dc_B_scattered_2 : decode mb_B_scattered 2 = .ok (.i2l, 1) := by decide +kernel
theorem dc_B_scattered_3 : decode mb_B_scattered 3 = .ok (.iload_n 3, 1) := by decide +kernel
theorem dc_B_scattered_4 : decode mb_B_scattered 4 = .ok (.i2l, 1) := by decide +kernel
theorem dc_B_scattered_5 : decode mb_B_scattered 5 = .ok (.lmul, 1) := by decide +kernel
theorem dc_B_scattered_6 : decode mb_B_scattered 6 = .ok (.lconst 1, 1) := by decide +kernel
theorem dc_B_scattered_7 : decode mb_B_scattered 7 = .ok (.ladd, 1) := by decide +kernel
theorem dc_B_scattered_8 : decode mb_B_scattered 8 = .ok (.lmul, 1) := by decide +kernel
theorem dc_B_scattered_9 : decode mb_B_scattered 9 = .ok (.lstore 4, 2) := by decide +kernel
theorem dc_B_scattered_11 : decode mb_B_scattered 11 = .ok (.lload 4, 2) := by decide +kernel
theorem dc_B_scattered_13 : decode mb_B_scattered 13 = .ok (.lload 4, 2) := by decide +kernel
theorem dc_B_scattered_15 : decode mb_B_scattered 15 = .ok (.bipush 29, 2) := by decide +kernel
theorem dc_B_scattered_17 : decode mb_B_scattered 17 = .ok (.lushr, 1) := by decide +kernel
theorem dc_B_scattered_18 : decode mb_B_scattered 18 = .ok (.lxor, 1) := by decide +kernel
theorem dc_B_scattered_19 : decode mb_B_scattered 19 = .ok (.lreturn, 1) := by decide +kernel
theorem dc_B_keyOfKind_0 : decode mb_B_keyOfKind 0 = .ok (.iload_n 0, 1) := by decide +kernel
theorem dc_B_keyOfKind_1 : decode mb_B_keyOfKind 1 = .ok (.tableswitch 88 1 4 #[31, 44, 68, 76], 31) := by decide +kernel
theorem dc_B_keyOfKind_32 : decode mb_B_keyOfKind 32 = .ok (.lload_n 3, 1) := by decide +kernel
theorem dc_B_keyOfKind_33 : decode mb_B_keyOfKind 33 = .ok (.iload_n 1, 1) := by decide +kernel
theorem dc_B_keyOfKind_34 : decode mb_B_keyOfKind 34 = .ok (.iconst 1, 1) := by decide +kernel
theorem dc_B_keyOfKind_35 : decode mb_B_keyOfKind 35 = .ok (.isub, 1) := by decide +kernel
theorem dc_B_keyOfKind_36 : decode mb_B_keyOfKind 36 = .ok (.iload_n 2, 1) := by decide +kernel
theorem dc_B_keyOfKind_37 : decode mb_B_keyOfKind 37 = .ok (.isub, 1) := by decide +kernel
theorem dc_B_keyOfKind_38 : decode mb_B_keyOfKind 38 = .ok (.i2l, 1) := by decide +kernel
theorem dc_B_keyOfKind_39 : decode mb_B_keyOfKind 39 = .ok (.iload 5, 2) := by decide +kernel
theorem dc_B_keyOfKind_41 : decode mb_B_keyOfKind 41 = .ok (.i2l, 1) := by decide +kernel
theorem dc_B_keyOfKind_42 : decode mb_B_keyOfKind 42 = .ok (.lmul, 1) := by decide +kernel
theorem dc_B_keyOfKind_43 : decode mb_B_keyOfKind 43 = .ok (.ladd, 1) := by decide +kernel
theorem dc_B_keyOfKind_44 : decode mb_B_keyOfKind 44 = .ok (.lreturn, 1) := by decide +kernel
theorem dc_B_keyOfKind_45 : decode mb_B_keyOfKind 45 = .ok (.lload_n 3, 1) := by decide +kernel
theorem dc_B_keyOfKind_46 : decode mb_B_keyOfKind 46 = .ok (.iload_n 2, 1) := by decide +kernel
theorem dc_B_keyOfKind_47 : decode mb_B_keyOfKind 47 = .ok (.iload_n 1, 1) := by decide +kernel
theorem dc_B_keyOfKind_48 : decode mb_B_keyOfKind 48 = .ok (.iconst 2, 1) := by decide +kernel
theorem dc_B_keyOfKind_49 : decode mb_B_keyOfKind 49 = .ok (.idiv, 1) := by decide +kernel
theorem dc_B_keyOfKind_50 : decode mb_B_keyOfKind 50 = .ok (.if_icmp .ge 7, 3) := by decide +kernel
theorem dc_B_keyOfKind_53 : decode mb_B_keyOfKind 53 = .ok (.iload_n 2, 1) := by decide +kernel
theorem dc_B_keyOfKind_54 : decode mb_B_keyOfKind 54 = .ok (.goto 8, 3) := by decide +kernel
theorem dc_B_keyOfKind_57 : decode mb_B_keyOfKind 57 = .ok (.iload_n 2, 1) := by decide +kernel
theorem dc_B_keyOfKind_58 : decode mb_B_keyOfKind 58 = .ok (.iload_n 1, 1) := by decide +kernel
theorem dc_B_keyOfKind_59 : decode mb_B_keyOfKind 59 = .ok (.iconst 2, 1) := by decide +kernel
theorem dc_B_keyOfKind_60 : decode mb_B_keyOfKind 60 = .ok (.idiv, 1) := by decide +kernel
theorem dc_B_keyOfKind_61 : decode mb_B_keyOfKind 61 = .ok (.isub, 1) := by decide +kernel
theorem dc_B_keyOfKind_62 : decode mb_B_keyOfKind 62 = .ok (.i2l, 1) := by decide +kernel
theorem dc_B_keyOfKind_63 : decode mb_B_keyOfKind 63 = .ok (.iload 5, 2) := by decide +kernel
theorem dc_B_keyOfKind_65 : decode mb_B_keyOfKind 65 = .ok (.i2l, 1) := by decide +kernel
theorem dc_B_keyOfKind_66 : decode mb_B_keyOfKind 66 = .ok (.lmul, 1) := by decide +kernel
theorem dc_B_keyOfKind_67 : decode mb_B_keyOfKind 67 = .ok (.ladd, 1) := by decide +kernel
theorem dc_B_keyOfKind_68 : decode mb_B_keyOfKind 68 = .ok (.lreturn, 1) := by decide +kernel
theorem dc_B_keyOfKind_69 : decode mb_B_keyOfKind 69 = .ok (.lload_n 3, 1) := by decide +kernel
theorem dc_B_keyOfKind_70 : decode mb_B_keyOfKind 70 = .ok (.iload_n 2, 1) := by decide +kernel
theorem dc_B_keyOfKind_71 : decode mb_B_keyOfKind 71 = .ok (.iload 5, 2) := by decide +kernel
theorem dc_B_keyOfKind_73 : decode mb_B_keyOfKind 73 = .ok (.invokestatic 234, 3) := by decide +kernel
theorem dc_B_keyOfKind_76 : decode mb_B_keyOfKind 76 = .ok (.lreturn, 1) := by decide +kernel
theorem dc_B_keyOfKind_77 : decode mb_B_keyOfKind 77 = .ok (.lload_n 3, 1) := by decide +kernel
theorem dc_B_keyOfKind_78 : decode mb_B_keyOfKind 78 = .ok (.iload_n 2, 1) := by decide +kernel
theorem dc_B_keyOfKind_79 : decode mb_B_keyOfKind 79 = .ok (.iload 5, 2) := by decide +kernel
theorem dc_B_keyOfKind_81 : decode mb_B_keyOfKind 81 = .ok (.invokestatic 234, 3) := by decide +kernel
theorem dc_B_keyOfKind_84 : decode mb_B_keyOfKind 84 = .ok (.ldc2_w 207, 3) := by decide +kernel
theorem dc_B_keyOfKind_87 : decode mb_B_keyOfKind 87 = .ok (.land, 1) := by decide +kernel
theorem dc_B_keyOfKind_88 : decode mb_B_keyOfKind 88 = .ok (.lreturn, 1) := by decide +kernel
theorem dc_B_keyOfKind_89 : decode mb_B_keyOfKind 89 = .ok (.lload_n 3, 1) := by decide +kernel
theorem dc_B_keyOfKind_90 : decode mb_B_keyOfKind 90 = .ok (.iload_n 2, 1) := by decide +kernel
theorem dc_B_keyOfKind_91 : decode mb_B_keyOfKind 91 = .ok (.i2l, 1) := by decide +kernel
theorem dc_B_keyOfKind_92 : decode mb_B_keyOfKind 92 = .ok (.iload 5, 2) := by decide +kernel
theorem dc_B_keyOfKind_94 : decode mb_B_keyOfKind 94 = .ok (.i2l, 1) := by decide +kernel
theorem dc_B_keyOfKind_95 : decode mb_B_keyOfKind 95 = .ok (.lmul, 1) := by decide +kernel
theorem dc_B_keyOfKind_96 : decode mb_B_keyOfKind 96 = .ok (.ladd, 1) := by decide +kernel
theorem dc_B_keyOfKind_97 : decode mb_B_keyOfKind 97 = .ok (.lreturn, 1) := by decide +kernel
theorem dc_B_isInOrder_0 : decode mb_B_isInOrder 0 = .ok (.iconst 1, 1) := by decide +kernel
theorem dc_B_isInOrder_1 : decode mb_B_isInOrder 1 = .ok (.istore_n 2, 1) := by decide +kernel
theorem dc_B_isInOrder_2 : decode mb_B_isInOrder 2 = .ok (.iload_n 2, 1) := by decide +kernel
theorem dc_B_isInOrder_3 : decode mb_B_isInOrder 3 = .ok (.aload_n 1, 1) := by decide +kernel
theorem dc_B_isInOrder_4 : decode mb_B_isInOrder 4 = .ok (.getfield 53, 3) := by decide +kernel
theorem dc_B_isInOrder_7 : decode mb_B_isInOrder 7 = .ok (.if_icmp .ge 23, 3) := by decide +kernel
theorem dc_B_isInOrder_10 : decode mb_B_isInOrder 10 = .ok (.aload_n 0, 1) := by decide +kernel
theorem dc_B_isInOrder_11 : decode mb_B_isInOrder 11 = .ok (.getfield 26, 3) := by decide +kernel
theorem dc_B_isInOrder_14 : decode mb_B_isInOrder 14 = .ok (.aload_n 1, 1) := by decide +kernel
theorem dc_B_isInOrder_15 : decode mb_B_isInOrder 15 = .ok (.iload_n 2, 1) := by decide +kernel
theorem dc_B_isInOrder_16 : decode mb_B_isInOrder 16 = .ok (.invokevirtual 231, 3) := by decide +kernel
theorem dc_B_isInOrder_19 : decode mb_B_isInOrder 19 = .ok (.ifCond .eq 5, 3) := by decide +kernel
theorem dc_B_isInOrder_22 : decode mb_B_isInOrder 22 = .ok (.iconst 0, 1) := by decide +kernel
theorem dc_B_isInOrder_23 : decode mb_B_isInOrder 23 = .ok (.ireturn, 1) := by decide +kernel
theorem dc_B_isInOrder_24 : decode mb_B_isInOrder 24 = .ok (.iinc 2 1, 3) := by decide +kernel
theorem dc_B_isInOrder_27 : decode mb_B_isInOrder 27 = .ok (.goto (-25), 3) := by decide +kernel
theorem dc_B_isInOrder_30 : decode mb_B_isInOrder 30 = .ok (.iconst 1, 1) := by decide +kernel
theorem dc_B_isInOrder_31 : decode mb_B_isInOrder 31 = .ok (.ireturn, 1) := by decide +kernel
/-- the least l with 2^l at least n, up to 1024 -/
def zdb (n : Nat) : Nat := if n ≤ 1 then 0 else if n ≤ 2 then 1 else if n ≤ 4 then 2 else if n ≤ 8 then 3 else if n ≤ 16 then 4 else if n ≤ 32 then 5 else if n ≤ 64 then 6 else if n ≤ 128 then 7 else if n ≤ 256 then 8 else if n ≤ 512 then 9 else 10
theorem zdb_of {n l : Nat} (hn : n ≤ 1024) (h1 : n ≤ 2 ^ l) (h2 : ∀ j, j < l → 2 ^ j < n) : zdb n = l := by
  have hl : l ≤ 10 := by
    rcases Nat.lt_or_ge 10 l with h | h
    · have := h2 10 h; omega
    · exact h
  unfold zdb
  rcases (show l = 0 ∨ l = 1 ∨ l = 2 ∨ l = 3 ∨ l = 4 ∨ l = 5 ∨ l = 6 ∨ l = 7 ∨ l = 8 ∨ l = 9 ∨ l = 10 by omega) with e | e | e | e | e | e | e | e | e | e | e <;> subst e
  · rw [if_pos (by omega)]
  · have := h2 0 (by omega); simp only [Nat.pow_zero] at this; (repeat (first | rw [if_pos (by omega)] | rw [if_neg (by omega)]))
  · have := h2 1 (by omega); (repeat (first | rw [if_pos (by omega)] | rw [if_neg (by omega)]))
  · have := h2 2 (by omega); (repeat (first | rw [if_pos (by omega)] | rw [if_neg (by omega)]))
  · have := h2 3 (by omega); (repeat (first | rw [if_pos (by omega)] | rw [if_neg (by omega)]))
  · have := h2 4 (by omega); (repeat (first | rw [if_pos (by omega)] | rw [if_neg (by omega)]))
  · have := h2 5 (by omega); (repeat (first | rw [if_pos (by omega)] | rw [if_neg (by omega)]))
  · have := h2 6 (by omega); (repeat (first | rw [if_pos (by omega)] | rw [if_neg (by omega)]))
  · have := h2 7 (by omega); (repeat (first | rw [if_pos (by omega)] | rw [if_neg (by omega)]))
  · have := h2 8 (by omega); (repeat (first | rw [if_pos (by omega)] | rw [if_neg (by omega)]))
  · have := h2 9 (by omega); (repeat (first | rw [if_pos (by omega)] | rw [if_neg (by omega)]))
theorem zdb_le (n : Nat) : zdb n ≤ 10 := by
  unfold zdb
  repeat (first | (split; decide) | decide)
theorem zdb_pow {n : Nat} (hn : n ≤ 1024) : n ≤ 2 ^ zdb n := by
  unfold zdb
  repeat (split; omega)
  omega
theorem nI_shl1 : ∀ l, l < 30 → nI 1 <<< (nI l &&& 31) = nI (2 ^ l) := by decide
/-- the most comparisons of a way -/
def zmc (wy n : Nat) : Nat := if wy = 0 then n * (n - 1) / 2 else if wy = 3 then n * n else if wy = 6 then 0 else 8 * n * (zdb n + 2)
def zsc (a : Int64) (i s : Int32) : Int64 := (a * ((Int32.toInt64 i * Int32.toInt64 s) + 1)) ^^^ ((Int64.toUInt64 (a * ((Int32.toInt64 i * Int32.toInt64 s) + 1)) >>> (Int64.toUInt64 (Int32.toInt64 (nI 29)) &&& Int64.toUInt64 63)).toInt64)
def zkk (kd n i : Nat) (a : Int64) (s : Int32) : Int64 :=
  if kd = 1 then a + Int32.toInt64 (nI (n - 1 - i)) * Int32.toInt64 s
  else if kd = 2 then a + Int32.toInt64 (nI (if i < n / 2 then i else i - n / 2)) * Int32.toInt64 s
  else if kd = 3 then zsc a (nI i) s else if kd = 4 then zsc a (nI i) s &&& 7 else a + Int32.toInt64 (nI i) * Int32.toInt64 s
set_option maxHeartbeats 4000000 in
set_option maxRecDepth 100000 in
theorem ct_B_doublings (la : Launch) (g : YG) (S : YS) (n : Nat) (hn : n ≤ 1024) : yC la mn_B_doublings mb_B_doublings 2 (some .int) 0 g [.int (nI (n))] S (fun v S' => v = some (.int (nI (zdb n))) ∧ S' = S) := by
  refine yC_of (by decide) (Nat.le_of_ble_eq_true rfl) ?_
  intro o hl hg hB0 hE
  subst hl
  subst hg
  have hB : yB o mb_B_doublings "OrderBench" := hB0
  have hm := hE.1
  show yW o (S) 0 [(0, .int (nI (n)))] []
  refine y_iconst (v := nI 0) (pc' := 1) hB dc_B_doublings_0 rfl rfl ?_
  refine y_istore_n (pc' := 2) (lv' := [(1, .int (nI (0))), (0, .int (nI (n)))]) hB hm dc_B_doublings_1 rfl rfl (by decide) rfl ?_
  have loop : ∀ (d : Nat) (l : Nat), 31 - l < d → (∀ j, j < l → 2 ^ j < n) → yW o (S) 2 [(1, .int (nI (l))), (0, .int (nI (n)))] [] := by
    intro d
    induction d with
    | zero => intro l hd; omega
    | succ d ih =>
      intro l hd h1
      have hl : l ≤ 10 := by
        rcases Nat.lt_or_ge 10 l with h | h
        · have := h1 10 h; omega
        · exact h
      refine y_iload_n (pc' := 3) hB dc_B_doublings_2 rfl rfl 0 rfl ?_
      refine y_bipush (v := nI 30) (pc' := 5) hB dc_B_doublings_3 rfl (by decide) ?_
      refine n_icmp_ge (pc' := 8) (tg := 21) hB dc_B_doublings_5 rfl rfl (by omega) (by omega) (fun h => ?_) (fun h => ?_)
      · omega
      · refine y_iconst (v := nI 1) (pc' := 9) hB dc_B_doublings_8 rfl rfl ?_
        refine y_iload_n (pc' := 10) hB dc_B_doublings_9 rfl rfl 0 rfl ?_
        refine y_ishl (v := (nI (1)) <<< ((nI (l)) &&& 31)) (pc' := 11) hB dc_B_doublings_10 rfl rfl ?_
        refine y_topi (y := nI (2 ^ l)) (nI_shl1 l (by omega)) ?_
        have hp : 2 ^ l ≤ 2 ^ 10 := Nat.pow_le_pow_right (by decide) hl
        refine y_iload_n (pc' := 12) hB dc_B_doublings_11 rfl rfl 1 rfl ?_
        refine n_icmp_ge (pc' := 15) (tg := 21) hB dc_B_doublings_12 rfl rfl (by omega) (by omega) (fun b2 => ?_) (fun b2 => ?_)
        · refine y_iload_n (pc' := 22) hB dc_B_doublings_21 rfl rfl 0 rfl ?_
          exact y_iret hB hE dc_B_doublings_22 ⟨by rw [zdb_of hn b2 h1], rfl⟩
        · refine n_inc (q := 0) (z := 1) (pc' := 18) (lv' := [(1, .int (nI (l + 1))), (0, .int (nI (n)))]) hB hm dc_B_doublings_15 rfl rfl (by decide) rfl ?_
          refine y_goto (tg := 2) hB dc_B_doublings_18 rfl ?_
          refine y_sub [0, 1] rfl ?_
          refine ih (l + 1) (by omega) (fun j hj => ?_)
          by_cases e : j = l
          · rw [e]; exact b2
          · exact h1 j (by omega)
  exact loop 32 0 (by omega) (fun j hj => by omega)
set_option maxHeartbeats 4000000 in
set_option maxRecDepth 100000 in
theorem ct_B_mostComparisons (l : Launch) (g : YG) (S : YS) (wy n : Nat) (hw : wy < 7) (hn : n ≤ 1024) : yC l mn_B_mostComparisons mb_B_mostComparisons 2 (some .int) 1 g [.int (nI (wy)), .int (nI (n))] S (fun v S' => v = some (.int (nI (zmc wy n))) ∧ S' = S) := by
  refine yC_of (by decide) (Nat.le_of_ble_eq_true rfl) ?_
  intro o hl hg hB0 hE
  subst hl
  subst hg
  have hB : yB o mb_B_mostComparisons "OrderBench" := hB0
  have hm := hE.1
  show yW o (S) 0 [(0, .int (nI (wy))), (1, .int (nI (n)))] []
  have hnn : n * (n - 1) ≤ 1024 * 1024 := Nat.mul_le_mul hn (by omega)
  refine y_iload_n (pc' := 1) hB dc_B_mostComparisons_0 rfl rfl 0 rfl ?_
  rcases (show wy = 0 ∨ wy = 3 ∨ wy = 6 ∨ (wy = 1 ∨ wy = 2 ∨ wy = 4 ∨ wy = 5) by omega) with e | e | e | e
  · subst e
    refine y_lookup (off := 35) (tg := 36) hB dc_B_mostComparisons_1 (by decide) (by decide) rfl ?_
    rcases Nat.eq_zero_or_pos n with e | e
    · subst e
      refine y_iload_n (pc' := 37) hB dc_B_mostComparisons_36 rfl rfl 1 rfl ?_
      refine y_iload_n (pc' := 38) hB dc_B_mostComparisons_37 rfl rfl 1 rfl ?_
      refine y_iconst (v := nI 1) (pc' := 39) hB dc_B_mostComparisons_38 rfl rfl ?_
      refine y_isub (v := (nI 0) - (nI 1)) (pc' := 40) hB dc_B_mostComparisons_39 rfl rfl ?_
      refine y_imul (v := (nI 0) * ((nI 0) - (nI 1))) (pc' := 41) hB dc_B_mostComparisons_40 rfl rfl ?_
      refine y_topi (y := nI (0)) (by decide) ?_
      refine y_iconst (v := nI 2) (pc' := 42) hB dc_B_mostComparisons_41 rfl rfl ?_
      refine n_idiv (x := 0) (y := 2) (pc' := 43) hB dc_B_mostComparisons_42 rfl (by omega) (by omega) (by omega) ?_
      exact y_iret hB hE dc_B_mostComparisons_43 ⟨rfl, rfl⟩
    · refine y_iload_n (pc' := 37) hB dc_B_mostComparisons_36 rfl rfl 1 rfl ?_
      refine y_iload_n (pc' := 38) hB dc_B_mostComparisons_37 rfl rfl 1 rfl ?_
      refine y_iconst (v := nI 1) (pc' := 39) hB dc_B_mostComparisons_38 rfl rfl ?_
      refine n_isub (x := n) (y := 1) (pc' := 40) hB dc_B_mostComparisons_39 rfl (by omega) ?_
      refine n_imul (x := n) (y := n - 1) (pc' := 41) hB dc_B_mostComparisons_40 rfl ?_
      refine y_iconst (v := nI 2) (pc' := 42) hB dc_B_mostComparisons_41 rfl rfl ?_
      refine n_idiv (x := n * (n - 1)) (y := 2) (pc' := 43) hB dc_B_mostComparisons_42 rfl (by omega) (by omega) (by omega) ?_
      exact y_iret hB hE dc_B_mostComparisons_43 ⟨rfl, rfl⟩
  · subst e
    refine y_lookup (off := 43) (tg := 44) hB dc_B_mostComparisons_1 (by decide) (by decide) rfl ?_
    refine y_iload_n (pc' := 45) hB dc_B_mostComparisons_44 rfl rfl 1 rfl ?_
    refine y_iload_n (pc' := 46) hB dc_B_mostComparisons_45 rfl rfl 1 rfl ?_
    refine n_imul (x := n) (y := n) (pc' := 47) hB dc_B_mostComparisons_46 rfl ?_
    exact y_iret hB hE dc_B_mostComparisons_47 ⟨rfl, rfl⟩
  · subst e
    refine y_lookup (off := 47) (tg := 48) hB dc_B_mostComparisons_1 (by decide) (by decide) rfl ?_
    refine y_iconst (v := nI 0) (pc' := 49) hB dc_B_mostComparisons_48 rfl rfl ?_
    exact y_iret hB hE dc_B_mostComparisons_49 ⟨rfl, rfl⟩
  · have e2 : zmc wy n = 8 * n * (zdb n + 2) := by unfold zmc; rw [if_neg (by omega), if_neg (by omega), if_neg (by omega)]
    refine y_lookup (off := 49) (tg := 50) hB dc_B_mostComparisons_1 (by decide) (by rcases e with e | e | e | e <;> subst e <;> decide) rfl ?_
    refine y_bipush (v := nI 8) (pc' := 52) hB dc_B_mostComparisons_50 rfl (by decide) ?_
    refine y_iload_n (pc' := 53) hB dc_B_mostComparisons_52 rfl rfl 1 rfl ?_
    refine n_imul (x := 8) (y := n) (pc' := 54) hB dc_B_mostComparisons_53 rfl ?_
    refine y_iload_n (pc' := 55) hB dc_B_mostComparisons_54 rfl rfl 1 rfl ?_
    refine y_callS (As := [.int (nI (n))]) (rest := [.int (nI (8 * n))]) (pc' := 58) hB hE (ct_B_doublings o.l o.G S n hn) mm_B_doublings q_412 q_413 dc_B_mostComparisons_55 rfl (by decide) rfl rfl (Nat.le_of_ble_eq_true rfl) (fun v S' hpost => ?_)
    obtain ⟨rfl, hSS⟩ := hpost
    rw [hSS]
    clear hSS S'
    show yW o (S) 58 [(0, .int (nI (wy))), (1, .int (nI (n)))] [.int (nI (zdb n)), .int (nI (8 * n))]
    refine y_iconst (v := nI 2) (pc' := 59) hB dc_B_mostComparisons_58 rfl rfl ?_
    refine n_iadd (x := zdb n) (y := 2) (pc' := 60) hB dc_B_mostComparisons_59 rfl ?_
    refine n_imul (x := 8 * n) (y := (zdb n) + 2) (pc' := 61) hB dc_B_mostComparisons_60 rfl ?_
    exact y_iret hB hE dc_B_mostComparisons_61 ⟨by rw [e2], rfl⟩
set_option maxHeartbeats 4000000 in
set_option maxRecDepth 100000 in
theorem ct_B_isSteady (l : Launch) (g : YG) (S : YS) (wy : Nat) (hw : wy < 7) : yC l mn_B_isSteady mb_B_isSteady 1 (some .boolean) 0 g [.int (nI (wy))] S (fun v S' => v = some (.int (yb (decide (wy = 0 ∨ wy = 4 ∨ wy = 5 ∨ wy = 6)))) ∧ S' = S) := by
  refine yC_of (by decide) (Nat.le_of_ble_eq_true rfl) ?_
  intro o hl hg hB0 hE
  subst hl
  subst hg
  have hB : yB o mb_B_isSteady "OrderBench" := hB0
  have hm := hE.1
  show yW o (S) 0 [(0, .int (nI (wy)))] []
  have yes : (wy = 0 ∨ wy = 4 ∨ wy = 5 ∨ wy = 6) → yW o S 20 [(0, .int (nI (wy)))] [] := by
    intro hq
    refine y_iconst (v := nI 1) (pc' := 21) hB dc_B_isSteady_20 rfl rfl ?_
    refine y_goto (tg := 25) hB dc_B_isSteady_21 rfl ?_
    exact y_zret hB hE dc_B_isSteady_25 (Or.inr rfl) ⟨by rw [decide_eq_true hq]; rfl, rfl⟩
  refine y_iload_n (pc' := 1) hB dc_B_isSteady_0 rfl rfl 0 rfl ?_
  refine n_if_eq (pc' := 4) (tg := 20) hB dc_B_isSteady_1 rfl rfl (by omega) (fun a1 => ?_) (fun a1 => ?_)
  · exact yes (by omega)
  · refine y_iload_n (pc' := 5) hB dc_B_isSteady_4 rfl rfl 0 rfl ?_
    refine y_iconst (v := nI 4) (pc' := 6) hB dc_B_isSteady_5 rfl rfl ?_
    refine n_icmp_eq (pc' := 9) (tg := 20) hB dc_B_isSteady_6 rfl rfl (by omega) (by omega) (fun a2 => ?_) (fun a2 => ?_)
    · exact yes (by omega)
    · refine y_iload_n (pc' := 10) hB dc_B_isSteady_9 rfl rfl 0 rfl ?_
      refine y_iconst (v := nI 5) (pc' := 11) hB dc_B_isSteady_10 rfl rfl ?_
      refine n_icmp_eq (pc' := 14) (tg := 20) hB dc_B_isSteady_11 rfl rfl (by omega) (by omega) (fun a3 => ?_) (fun a3 => ?_)
      · exact yes (by omega)
      · refine y_iload_n (pc' := 15) hB dc_B_isSteady_14 rfl rfl 0 rfl ?_
        refine y_bipush (v := nI 6) (pc' := 17) hB dc_B_isSteady_15 rfl (by decide) ?_
        refine n_icmp_ne (pc' := 20) (tg := 24) hB dc_B_isSteady_17 rfl rfl (by omega) (by omega) (fun a4 => ?_) (fun a4 => ?_)
        · refine y_iconst (v := nI 0) (pc' := 25) hB dc_B_isSteady_24 rfl rfl ?_
          exact y_zret hB hE dc_B_isSteady_25 (Or.inl rfl) ⟨by rw [decide_eq_false (by omega)]; rfl, rfl⟩
        · exact yes (by omega)
set_option maxHeartbeats 4000000 in
set_option maxRecDepth 100000 in
theorem ct_B_scattered (l : Launch) (g : YG) (S : YS) (a : Int64) (i s : Int32) : yC l mn_B_scattered mb_B_scattered 6 (some .long) 0 g [.long (a), .int (i), .int (s)] S (fun v S' => v = some (.long (zsc a i s)) ∧ S' = S) := by
  refine yC_of (by decide) (Nat.le_of_ble_eq_true rfl) ?_
  intro o hl hg hB0 hE
  subst hl
  subst hg
  have hB : yB o mb_B_scattered "OrderBench" := hB0
  have hm := hE.1
  show yW o (S) 0 [(0, .long (a)), (2, .int (i)), (3, .int (s))] []
  refine y_lload_n (pc' := 1) hB dc_B_scattered_0 rfl rfl 0 rfl ?_
  refine y_iload_n (pc' := 2) hB dc_B_scattered_1 rfl rfl 1 rfl ?_
  refine y_i2l (v := Int32.toInt64 (i)) (pc' := 3) hB dc_B_scattered_2 rfl rfl ?_
  refine y_iload_n (pc' := 4) hB dc_B_scattered_3 rfl rfl 2 rfl ?_
  refine y_i2l (v := Int32.toInt64 (s)) (pc' := 5) hB dc_B_scattered_4 rfl rfl ?_
  refine y_lmul (v := (Int32.toInt64 (i)) * (Int32.toInt64 (s))) (pc' := 6) hB dc_B_scattered_5 rfl rfl ?_
  refine y_lconst (v := 1) (pc' := 7) hB dc_B_scattered_6 rfl rfl ?_
  refine y_ladd (v := ((Int32.toInt64 (i)) * (Int32.toInt64 (s))) + 1) (pc' := 8) hB dc_B_scattered_7 rfl rfl ?_
  refine y_lmul (v := a * (((Int32.toInt64 (i)) * (Int32.toInt64 (s))) + 1)) (pc' := 9) hB dc_B_scattered_8 rfl rfl ?_
  refine y_lstore (pc' := 11) (lv' := [(4, .long (a * (((Int32.toInt64 (i)) * (Int32.toInt64 (s))) + 1))), (0, .long (a)), (2, .int (i)), (3, .int (s))]) hB hm dc_B_scattered_9 rfl (by decide) rfl ?_
  refine y_lload (pc' := 13) hB dc_B_scattered_11 rfl 0 rfl ?_
  refine y_lload (pc' := 15) hB dc_B_scattered_13 rfl 0 rfl ?_
  refine y_bipush (v := nI 29) (pc' := 17) hB dc_B_scattered_15 rfl (by decide) ?_
  refine y_lushr (v := (Int64.toUInt64 (a * (((Int32.toInt64 (i)) * (Int32.toInt64 (s))) + 1)) >>> (Int64.toUInt64 (Int32.toInt64 (nI (29))) &&& Int64.toUInt64 63)).toInt64) (pc' := 18) hB dc_B_scattered_17 rfl rfl ?_
  refine y_lxor (v := (a * (((Int32.toInt64 (i)) * (Int32.toInt64 (s))) + 1)) ^^^ ((Int64.toUInt64 (a * (((Int32.toInt64 (i)) * (Int32.toInt64 (s))) + 1)) >>> (Int64.toUInt64 (Int32.toInt64 (nI (29))) &&& Int64.toUInt64 63)).toInt64)) (pc' := 19) hB dc_B_scattered_18 rfl rfl ?_
  exact y_lret hB hE dc_B_scattered_19 ⟨rfl, rfl⟩
set_option maxHeartbeats 4000000 in
set_option maxRecDepth 100000 in
theorem ct_B_keyOfKind (l : Launch) (g : YG) (S : YS) (kd n i : Nat) (hk : kd < 6) (hn : n ≤ 1024) (hi : i < n) (a : Int64) (s : Int32) : yC l mn_B_keyOfKind mb_B_keyOfKind 6 (some .long) 1 g [.int (nI (kd)), .int (nI (n)), .int (nI (i)), .long (a), .int (s)] S (fun v S' => v = some (.long (zkk kd n i a s)) ∧ S' = S) := by
  refine yC_of (by decide) (Nat.le_of_ble_eq_true rfl) ?_
  intro o hl hg hB0 hE
  subst hl
  subst hg
  have hB : yB o mb_B_keyOfKind "OrderBench" := hB0
  have hm := hE.1
  show yW o (S) 0 [(0, .int (nI (kd))), (1, .int (nI (n))), (2, .int (nI (i))), (3, .long (a)), (5, .int (s))] []
  refine y_iload_n (pc' := 1) hB dc_B_keyOfKind_0 rfl rfl 0 rfl ?_
  rcases (show kd = 1 ∨ kd = 2 ∨ kd = 3 ∨ kd = 4 ∨ (kd = 0 ∨ kd = 5) by omega) with e | e | e | e | e
  · subst e
    refine y_tableIn (off := 31) (tg := 32) hB dc_B_keyOfKind_1 (by decide) (by decide) rfl rfl ?_
    refine y_lload_n (pc' := 33) hB dc_B_keyOfKind_32 rfl rfl 3 rfl ?_
    refine y_iload_n (pc' := 34) hB dc_B_keyOfKind_33 rfl rfl 1 rfl ?_
    refine y_iconst (v := nI 1) (pc' := 35) hB dc_B_keyOfKind_34 rfl rfl ?_
    refine n_isub (x := n) (y := 1) (pc' := 36) hB dc_B_keyOfKind_35 rfl (by omega) ?_
    refine y_iload_n (pc' := 37) hB dc_B_keyOfKind_36 rfl rfl 2 rfl ?_
    refine n_isub (x := n - 1) (y := i) (pc' := 38) hB dc_B_keyOfKind_37 rfl (by omega) ?_
    refine y_i2l (v := Int32.toInt64 (nI ((n - 1) - i))) (pc' := 39) hB dc_B_keyOfKind_38 rfl rfl ?_
    refine y_iload (pc' := 41) hB dc_B_keyOfKind_39 rfl 4 rfl ?_
    refine y_i2l (v := Int32.toInt64 (s)) (pc' := 42) hB dc_B_keyOfKind_41 rfl rfl ?_
    refine y_lmul (v := (Int32.toInt64 (nI ((n - 1) - i))) * (Int32.toInt64 (s))) (pc' := 43) hB dc_B_keyOfKind_42 rfl rfl ?_
    refine y_ladd (v := a + ((Int32.toInt64 (nI ((n - 1) - i))) * (Int32.toInt64 (s)))) (pc' := 44) hB dc_B_keyOfKind_43 rfl rfl ?_
    exact y_lret hB hE dc_B_keyOfKind_44 ⟨rfl, rfl⟩
  · subst e
    refine y_tableIn (off := 44) (tg := 45) hB dc_B_keyOfKind_1 (by decide) (by decide) rfl rfl ?_
    refine y_lload_n (pc' := 46) hB dc_B_keyOfKind_45 rfl rfl 3 rfl ?_
    refine y_iload_n (pc' := 47) hB dc_B_keyOfKind_46 rfl rfl 2 rfl ?_
    refine y_iload_n (pc' := 48) hB dc_B_keyOfKind_47 rfl rfl 1 rfl ?_
    refine y_iconst (v := nI 2) (pc' := 49) hB dc_B_keyOfKind_48 rfl rfl ?_
    refine n_idiv (x := n) (y := 2) (pc' := 50) hB dc_B_keyOfKind_49 rfl (by omega) (by omega) (by omega) ?_
    refine n_icmp_ge (pc' := 53) (tg := 57) hB dc_B_keyOfKind_50 rfl rfl (by omega) (by omega) (fun b1 => ?_) (fun b1 => ?_)
    · refine y_iload_n (pc' := 58) hB dc_B_keyOfKind_57 rfl rfl 2 rfl ?_
      refine y_iload_n (pc' := 59) hB dc_B_keyOfKind_58 rfl rfl 1 rfl ?_
      refine y_iconst (v := nI 2) (pc' := 60) hB dc_B_keyOfKind_59 rfl rfl ?_
      refine n_idiv (x := n) (y := 2) (pc' := 61) hB dc_B_keyOfKind_60 rfl (by omega) (by omega) (by omega) ?_
      refine n_isub (x := i) (y := n / 2) (pc' := 62) hB dc_B_keyOfKind_61 rfl (by omega) ?_
      refine y_i2l (v := Int32.toInt64 (nI (i - (n / 2)))) (pc' := 63) hB dc_B_keyOfKind_62 rfl rfl ?_
      refine y_iload (pc' := 65) hB dc_B_keyOfKind_63 rfl 4 rfl ?_
      refine y_i2l (v := Int32.toInt64 (s)) (pc' := 66) hB dc_B_keyOfKind_65 rfl rfl ?_
      refine y_lmul (v := (Int32.toInt64 (nI (i - (n / 2)))) * (Int32.toInt64 (s))) (pc' := 67) hB dc_B_keyOfKind_66 rfl rfl ?_
      refine y_ladd (v := a + ((Int32.toInt64 (nI (i - (n / 2)))) * (Int32.toInt64 (s)))) (pc' := 68) hB dc_B_keyOfKind_67 rfl rfl ?_
      exact y_lret hB hE dc_B_keyOfKind_68 ⟨by show _ = some (Value.long (a + Int32.toInt64 (nI (if i < n / 2 then i else i - n / 2)) * Int32.toInt64 s)); rw [if_neg (by omega)], rfl⟩
    · refine y_iload_n (pc' := 54) hB dc_B_keyOfKind_53 rfl rfl 2 rfl ?_
      refine y_goto (tg := 62) hB dc_B_keyOfKind_54 rfl ?_
      refine y_i2l (v := Int32.toInt64 (nI (i))) (pc' := 63) hB dc_B_keyOfKind_62 rfl rfl ?_
      refine y_iload (pc' := 65) hB dc_B_keyOfKind_63 rfl 4 rfl ?_
      refine y_i2l (v := Int32.toInt64 (s)) (pc' := 66) hB dc_B_keyOfKind_65 rfl rfl ?_
      refine y_lmul (v := (Int32.toInt64 (nI (i))) * (Int32.toInt64 (s))) (pc' := 67) hB dc_B_keyOfKind_66 rfl rfl ?_
      refine y_ladd (v := a + ((Int32.toInt64 (nI (i))) * (Int32.toInt64 (s)))) (pc' := 68) hB dc_B_keyOfKind_67 rfl rfl ?_
      exact y_lret hB hE dc_B_keyOfKind_68 ⟨by show _ = some (Value.long (a + Int32.toInt64 (nI (if i < n / 2 then i else i - n / 2)) * Int32.toInt64 s)); rw [if_pos b1], rfl⟩
  · subst e
    refine y_tableIn (off := 68) (tg := 69) hB dc_B_keyOfKind_1 (by decide) (by decide) rfl rfl ?_
    refine y_lload_n (pc' := 70) hB dc_B_keyOfKind_69 rfl rfl 3 rfl ?_
    refine y_iload_n (pc' := 71) hB dc_B_keyOfKind_70 rfl rfl 2 rfl ?_
    refine y_iload (pc' := 73) hB dc_B_keyOfKind_71 rfl 4 rfl ?_
    refine y_callS (As := [.long (a), .int (nI (i)), .int (s)]) (rest := []) (pc' := 76) hB hE (ct_B_scattered o.l o.G S a (nI i) s) mm_B_scattered q_261 q_262 dc_B_keyOfKind_73 rfl (by decide) rfl rfl (Nat.le_of_ble_eq_true rfl) (fun v S' hpost => ?_)
    obtain ⟨rfl, hSS⟩ := hpost
    rw [hSS]
    clear hSS S'
    show yW o (S) 76 [(0, .int (nI (3))), (1, .int (nI (n))), (2, .int (nI (i))), (3, .long (a)), (5, .int (s))] [.long (zsc a (nI i) s)]
    exact y_lret hB hE dc_B_keyOfKind_76 ⟨rfl, rfl⟩
  · subst e
    refine y_tableIn (off := 76) (tg := 77) hB dc_B_keyOfKind_1 (by decide) (by decide) rfl rfl ?_
    refine y_lload_n (pc' := 78) hB dc_B_keyOfKind_77 rfl rfl 3 rfl ?_
    refine y_iload_n (pc' := 79) hB dc_B_keyOfKind_78 rfl rfl 2 rfl ?_
    refine y_iload (pc' := 81) hB dc_B_keyOfKind_79 rfl 4 rfl ?_
    refine y_callS (As := [.long (a), .int (nI (i)), .int (s)]) (rest := []) (pc' := 84) hB hE (ct_B_scattered o.l o.G S a (nI i) s) mm_B_scattered q_261 q_262 dc_B_keyOfKind_81 rfl (by decide) rfl rfl (Nat.le_of_ble_eq_true rfl) (fun v S' hpost => ?_)
    obtain ⟨rfl, hSS⟩ := hpost
    rw [hSS]
    clear hSS S'
    show yW o (S) 84 [(0, .int (nI (4))), (1, .int (nI (n))), (2, .int (nI (i))), (3, .long (a)), (5, .int (s))] [.long (zsc a (nI i) s)]
    refine y_ldc2 (v := 7) (pc' := 87) hB dc_B_keyOfKind_84 rfl q_264 ?_
    refine y_land (v := (zsc a (nI i) s) &&& 7) (pc' := 88) hB dc_B_keyOfKind_87 rfl rfl ?_
    exact y_lret hB hE dc_B_keyOfKind_88 ⟨rfl, rfl⟩
  · have e2 : zkk kd n i a s = a + Int32.toInt64 (nI i) * Int32.toInt64 s := by unfold zkk; rw [if_neg (by omega), if_neg (by omega), if_neg (by omega), if_neg (by omega)]
    refine y_tableOut (tg := 89) hB dc_B_keyOfKind_1 (by rcases e with e | e <;> subst e <;> decide) rfl ?_
    refine y_lload_n (pc' := 90) hB dc_B_keyOfKind_89 rfl rfl 3 rfl ?_
    refine y_iload_n (pc' := 91) hB dc_B_keyOfKind_90 rfl rfl 2 rfl ?_
    refine y_i2l (v := Int32.toInt64 (nI (i))) (pc' := 92) hB dc_B_keyOfKind_91 rfl rfl ?_
    refine y_iload (pc' := 94) hB dc_B_keyOfKind_92 rfl 4 rfl ?_
    refine y_i2l (v := Int32.toInt64 (s)) (pc' := 95) hB dc_B_keyOfKind_94 rfl rfl ?_
    refine y_lmul (v := (Int32.toInt64 (nI (i))) * (Int32.toInt64 (s))) (pc' := 96) hB dc_B_keyOfKind_95 rfl rfl ?_
    refine y_ladd (v := a + ((Int32.toInt64 (nI (i))) * (Int32.toInt64 (s)))) (pc' := 97) hB dc_B_keyOfKind_96 rfl rfl ?_
    exact y_lret hB hE dc_B_keyOfKind_97 ⟨by rw [e2], rfl⟩
set_option maxHeartbeats 4000000 in
set_option maxRecDepth 100000 in
theorem ct_B_isInOrder (l : Launch) (g : YG) (S : YS) (od : Nat) (tg : Bool) (c : Nat) (hJ : yJ S od tg c) (r : Nat) (hr : r < 6) (n : Nat) (hn : n ≤ 1024) (hc : gF S (2 + r) 2 = nI n) : yC l mn_B_isInOrder mb_B_isInOrder 3 (some .boolean) 4 g [.ref (g.ad (0)), .ref (g.ad (2 + r))] S (fun v S' => ∃ (bo : Bool) (c' : Nat), v = some (.int (yb bo)) ∧ S' = yq S c' ∧ (bo = true ↔ zo (zq od tg) (zs (ye S r) 0 n))) := by
  refine yC_of (by decide) (Nat.le_of_ble_eq_true rfl) ?_
  intro o hl hg hB0 hE
  subst hl
  subst hg
  have hB : yB o mb_B_isInOrder "OrderBench" := hB0
  have hm := hE.1
  show yW o (S) 0 [(0, .ref (o.G.ad (0))), (1, .ref (o.G.ad (2 + r)))] []
  refine y_iconst (v := nI 1) (pc' := 1) hB dc_B_isInOrder_0 rfl rfl ?_
  refine y_istore_n (pc' := 2) (lv' := [(2, .int (nI (1))), (0, .ref (o.G.ad (0))), (1, .ref (o.G.ad (2 + r)))]) hB hm dc_B_isInOrder_1 rfl rfl (by decide) rfl ?_
  have loop : ∀ (d : Nat) (i c1 : Nat), 1025 - i < d → (∀ j, 0 < j → j < i → j < n → zq od tg ((ye S r) (j - 1)) ≤ zq od tg ((ye S r) j)) → 1 ≤ i → i ≤ 1025 → yW o (yq S c1) 2 [(2, .int (nI (i))), (0, .ref (o.G.ad (0))), (1, .ref (o.G.ad (2 + r)))] [] := by
    intro d
    induction d with
    | zero => intro i c1 hd; omega
    | succ d ih =>
      intro i c1 hd h1 h2 h3
      refine y_iload_n (pc' := 3) hB dc_B_isInOrder_2 rfl rfl 0 rfl ?_
      refine y_aload_n (pc' := 4) hB dc_B_isInOrder_3 rfl rfl 2 rfl ?_
      refine f_count (r := r) (pc' := 7) hB dc_B_isInOrder_4 rfl (by omega) q_53 ?_
      refine y_topi (y := nI (n)) ((gF_yq S c1 r hr).trans hc) ?_
      refine n_icmp_ge (pc' := 10) (tg := 30) hB dc_B_isInOrder_7 rfl rfl (by omega) (by omega) (fun b1 => ?_) (fun b1 => ?_)
      · refine y_iconst (v := nI 1) (pc' := 31) hB dc_B_isInOrder_30 rfl rfl ?_
        refine y_zret hB hE dc_B_isInOrder_31 (Or.inr rfl) ⟨true, c1, rfl, rfl, fun _ => ?_, fun _ => rfl⟩
        have := zrise (r := zq od tg) (f := ye S r) (a := 0) (b := n) (fun j q1 q2 => h1 j q1 (by omega) q2)
        rwa [Nat.sub_zero] at this
      · refine y_aload_n (pc' := 11) hB dc_B_isInOrder_10 rfl rfl 1 rfl ?_
        refine f_B_judge (pc' := 14) hB dc_B_isInOrder_11 rfl q_105 ?_
        refine y_aload_n (pc' := 15) hB dc_B_isInOrder_14 rfl rfl 2 rfl ?_
        refine y_iload_n (pc' := 16) hB dc_B_isInOrder_15 rfl rfl 0 rfl ?_
        refine y_callV (c := 20) (ci := 2) (As := [.ref (o.G.ad (2 + r)), .int (nI (i))]) (rest := []) (pc' := 19) hB hE (ct_J_drops o.l o.G (yq S c1) od tg c1 (yJ_yq hJ c1) r hr i h2 (by omega)) mm_J_drops q_548 q_467 q_468 (by decide) rfl rfl dc_B_isInOrder_16 rfl (by decide) rfl rfl (Nat.le_of_ble_eq_true rfl) (fun v S' hpost => ?_)
        obtain ⟨rfl, hSS⟩ := hpost
        rw [hSS]
        clear hSS S'
        show yW o (yq (yq S c1) (c1 + 1)) 19 [(2, .int (nI (i))), (0, .ref (o.G.ad (0))), (1, .ref (o.G.ad (2 + r)))] [.int (yb (decide (zq od tg (ye (yq S c1) r i) < zq od tg (ye (yq S c1) r (i - 1)))))]
        rw [yq_yq, ye_yq]
        refine y_if_eq (x := yb (decide (zq od tg (ye S r i) < zq od tg (ye S r (i - 1))))) (pc' := 22) (tg := 24) hB dc_B_isInOrder_19 rfl rfl (fun b2 => ?_) (fun b2 => ?_)
        · rw [yb_0, decide_eq_false_iff_not] at b2
          refine n_inc (q := 0) (z := 1) (pc' := 27) (lv' := [(2, .int (nI (i + 1))), (0, .ref (o.G.ad (0))), (1, .ref (o.G.ad (2 + r)))]) hB hm dc_B_isInOrder_24 rfl rfl (by decide) rfl ?_
          refine y_goto (tg := 2) hB dc_B_isInOrder_27 rfl ?_
          refine y_sub [0, 1, 2] rfl ?_
          refine ih (i + 1) (c1 + 1) (by omega) (fun j q1 q2 q3 => ?_) (by omega) (by omega)
          by_cases e : j = i
          · rw [e]; omega
          · exact h1 j q1 (by omega) q3
        · rw [yb_n, decide_eq_true_eq] at b2
          refine y_iconst (v := nI 0) (pc' := 23) hB dc_B_isInOrder_22 rfl rfl ?_
          refine y_zret hB hE dc_B_isInOrder_23 (Or.inl rfl) ⟨false, c1 + 1, rfl, rfl, fun q => absurd q (by decide), fun q => ?_⟩
          have := zo_zs.mp q (i - 1) i (by omega) b1
          rw [Nat.zero_add, Nat.zero_add] at this
          omega
  have h0 := loop 1026 1 c (by omega) (fun j q1 q2 => by omega) (Nat.le_refl _) (by omega)
  rw [yq_self hJ] at h0
  exact h0
