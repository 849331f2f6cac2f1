/-! PARTING -/
theorem dc_P_middleOfThree_0 : decode mb_P_middleOfThree 0 = .ok (.aload_n 1, 1) := by decide +kernel
theorem dc_P_middleOfThree_1 : decode mb_P_middleOfThree 1 = .ok (.aload_n 0, 1) := by decide +kernel
theorem dc_P_middleOfThree_2 : decode mb_P_middleOfThree 2 = .ok (.iload_n 2, 1) := by decide +kernel
theorem dc_P_middleOfThree_3 : decode mb_P_middleOfThree 3 = .ok (.aload_n 0, 1) := by decide +kernel
theorem dc_P_middleOfThree_4 : decode mb_P_middleOfThree 4 = .ok (.iload_n 3, 1) := by decide +kernel
theorem dc_P_middleOfThree_5 : decode mb_P_middleOfThree 5 = .ok (.invokevirtual 35, 3) := by decide +kernel
theorem dc_P_middleOfThree_8 : decode mb_P_middleOfThree 8 = .ok (.istore 5, 2) := by decide +kernel
theorem dc_P_middleOfThree_10 : decode mb_P_middleOfThree 10 = .ok (.iload 5, 2) := by decide +kernel
theorem dc_P_middleOfThree_12 : decode mb_P_middleOfThree 12 = .ok (.ifCond .eq 7, 3) := by decide +kernel
theorem dc_P_middleOfThree_15 : decode mb_P_middleOfThree 15 = .ok (.iload_n 2, 1) := by decide +kernel
theorem dc_P_middleOfThree_16 : decode mb_P_middleOfThree 16 = .ok (.goto 4, 3) := by decide +kernel
theorem dc_P_middleOfThree_19 : decode mb_P_middleOfThree 19 = .ok (.iload_n 3, 1) := by decide +kernel
theorem dc_P_middleOfThree_20 : decode mb_P_middleOfThree 20 = .ok (.istore 6, 2) := by decide +kernel
theorem dc_P_middleOfThree_22 : decode mb_P_middleOfThree 22 = .ok (.iload 5, 2) := by decide +kernel
theorem dc_P_middleOfThree_24 : decode mb_P_middleOfThree 24 = .ok (.ifCond .eq 7, 3) := by decide +kernel
theorem dc_P_middleOfThree_27 : decode mb_P_middleOfThree 27 = .ok (.iload_n 3, 1) := by decide +kernel
theorem dc_P_middleOfThree_28 : decode mb_P_middleOfThree 28 = .ok (.goto 4, 3) := by decide +kernel
theorem dc_P_middleOfThree_31 : decode mb_P_middleOfThree 31 = .ok (.iload_n 2, 1) := by decide +kernel
theorem dc_P_middleOfThree_32 : decode mb_P_middleOfThree 32 = .ok (.istore 7, 2) := by decide +kernel
theorem dc_P_middleOfThree_34 : decode mb_P_middleOfThree 34 = .ok (.aload_n 1, 1) := by decide +kernel
theorem dc_P_middleOfThree_35 : decode mb_P_middleOfThree 35 = .ok (.aload_n 0, 1) := by decide +kernel
theorem dc_P_middleOfThree_36 : decode mb_P_middleOfThree 36 = .ok (.iload 4, 2) := by decide +kernel
theorem dc_P_middleOfThree_38 : decode mb_P_middleOfThree 38 = .ok (.aload_n 0, 1) := by decide +kernel
theorem dc_P_middleOfThree_39 : decode mb_P_middleOfThree 39 = .ok (.iload 7, 2) := by decide +kernel
theorem dc_P_middleOfThree_41 : decode mb_P_middleOfThree 41 = .ok (.invokevirtual 35, 3) := by decide +kernel
theorem dc_P_middleOfThree_44 : decode mb_P_middleOfThree 44 = .ok (.ifCond .ne 6, 3) := by decide +kernel
theorem dc_P_middleOfThree_47 : decode mb_P_middleOfThree 47 = .ok (.iload 7, 2) := by decide +kernel
theorem dc_P_middleOfThree_49 : decode mb_P_middleOfThree 49 = .ok (.ireturn, 1) := by decide +kernel
theorem dc_P_middleOfThree_50 : decode mb_P_middleOfThree 50 = .ok (.aload_n 1, 1) := by decide +kernel
theorem dc_P_middleOfThree_51 : decode mb_P_middleOfThree 51 = .ok (.aload_n 0, 1) := by decide +kernel
theorem dc_P_middleOfThree_52 : decode mb_P_middleOfThree 52 = .ok (.iload 4, 2) := by decide +kernel
theorem dc_P_middleOfThree_54 : decode mb_P_middleOfThree 54 = .ok (.aload_n 0, 1) := by decide +kernel
theorem dc_P_middleOfThree_55 : decode mb_P_middleOfThree 55 = .ok (.iload 6, 2) := by decide +kernel
theorem dc_P_middleOfThree_57 : decode mb_P_middleOfThree 57 = .ok (.invokevirtual 35, 3) := by decide +kernel
theorem dc_P_middleOfThree_60 : decode mb_P_middleOfThree 60 = .ok (.ifCond .eq 8, 3) := by decide +kernel
theorem dc_P_middleOfThree_63 : decode mb_P_middleOfThree 63 = .ok (.iload 6, 2) := by decide +kernel
theorem dc_P_middleOfThree_65 : decode mb_P_middleOfThree 65 = .ok (.goto 5, 3) := by decide +kernel
theorem dc_P_middleOfThree_68 : decode mb_P_middleOfThree 68 = .ok (.iload 4, 2) := by decide +kernel
theorem dc_P_middleOfThree_70 : decode mb_P_middleOfThree 70 = .ok (.ireturn, 1) := by decide +kernel
theorem dc_P_part_0 : decode mb_P_part 0 = .ok (.iload_n 2, 1) := by decide +kernel
theorem dc_P_part_1 : decode mb_P_part 1 = .ok (.iconst 1, 1) := by decide +kernel
theorem dc_P_part_2 : decode mb_P_part 2 = .ok (.iadd, 1) := by decide +kernel
theorem dc_P_part_3 : decode mb_P_part 3 = .ok (.istore 4, 2) := by decide +kernel
theorem dc_P_part_5 : decode mb_P_part 5 = .ok (.iload_n 3, 1) := by decide +kernel
theorem dc_P_part_6 : decode mb_P_part 6 = .ok (.iconst 1, 1) := by decide +kernel
theorem dc_P_part_7 : decode mb_P_part 7 = .ok (.isub, 1) := by decide +kernel
theorem dc_P_part_8 : decode mb_P_part 8 = .ok (.istore 5, 2) := by decide +kernel
theorem dc_P_part_10 : decode mb_P_part 10 = .ok (.iload 4, 2) := by decide +kernel
theorem dc_P_part_12 : decode mb_P_part 12 = .ok (.iload 5, 2) := by decide +kernel
theorem dc_P_part_14 : decode mb_P_part 14 = .ok (.if_icmp .gt 77, 3) := by decide +kernel
theorem dc_P_part_17 : decode mb_P_part 17 = .ok (.iload 4, 2) := by decide +kernel
theorem dc_P_part_19 : decode mb_P_part 19 = .ok (.iload 5, 2) := by decide +kernel
theorem dc_P_part_21 : decode mb_P_part 21 = .ok (.if_icmp .gt 21, 3) := by decide +kernel
theorem dc_P_part_24 : decode mb_P_part 24 = .ok (.aload_n 1, 1) := by decide +kernel
theorem dc_P_part_25 : decode mb_P_part 25 = .ok (.aload_n 0, 1) := by decide +kernel
theorem dc_P_part_26 : decode mb_P_part 26 = .ok (.iload 4, 2) := by decide +kernel
theorem dc_P_part_28 : decode mb_P_part 28 = .ok (.aload_n 0, 1) := by decide +kernel
theorem dc_P_part_29 : decode mb_P_part 29 = .ok (.iload_n 2, 1) := by decide +kernel
theorem dc_P_part_30 : decode mb_P_part 30 = .ok (.invokevirtual 35, 3) := by decide +kernel
theorem dc_P_part_33 : decode mb_P_part 33 = .ok (.ifCond .eq 9, 3) := by decide +kernel
theorem dc_P_part_36 : decode mb_P_part 36 = .ok (.iinc 4 1, 3) := by decide +kernel
theorem dc_P_part_39 : decode mb_P_part 39 = .ok (.goto (-22), 3) := by decide +kernel
theorem dc_P_part_42 : decode mb_P_part 42 = .ok (.iload 4, 2) := by decide +kernel
theorem dc_P_part_44 : decode mb_P_part 44 = .ok (.iload 5, 2) := by decide +kernel
theorem dc_P_part_46 : decode mb_P_part 46 = .ok (.if_icmp .gt 21, 3) := by decide +kernel
theorem dc_P_part_49 : decode mb_P_part 49 = .ok (.aload_n 1, 1) := by decide +kernel
theorem dc_P_part_50 : decode mb_P_part 50 = .ok (.aload_n 0, 1) := by decide +kernel
theorem dc_P_part_51 : decode mb_P_part 51 = .ok (.iload_n 2, 1) := by decide +kernel
theorem dc_P_part_52 : decode mb_P_part 52 = .ok (.aload_n 0, 1) := by decide +kernel
theorem dc_P_part_53 : decode mb_P_part 53 = .ok (.iload 5, 2) := by decide +kernel
theorem dc_P_part_55 : decode mb_P_part 55 = .ok (.invokevirtual 35, 3) := by decide +kernel
theorem dc_P_part_58 : decode mb_P_part 58 = .ok (.ifCond .eq 9, 3) := by decide +kernel
theorem dc_P_part_61 : decode mb_P_part 61 = .ok (.iinc 5 (-1), 3) := by decide +kernel
theorem dc_P_part_64 : decode mb_P_part 64 = .ok (.goto (-22), 3) := by decide +kernel
theorem dc_P_part_67 : decode mb_P_part 67 = .ok (.iload 4, 2) := by decide +kernel
theorem dc_P_part_69 : decode mb_P_part 69 = .ok (.iload 5, 2) := by decide +kernel
theorem dc_P_part_71 : decode mb_P_part 71 = .ok (.if_icmp .gt (-61), 3) := by decide +kernel
theorem dc_P_part_74 : decode mb_P_part 74 = .ok (.aload_n 0, 1) := by decide +kernel
theorem dc_P_part_75 : decode mb_P_part 75 = .ok (.iload 4, 2) := by decide +kernel
theorem dc_P_part_77 : decode mb_P_part 77 = .ok (.iload 5, 2) := by decide +kernel
theorem dc_P_part_79 : decode mb_P_part 79 = .ok (.invokevirtual 24, 3) := by decide +kernel
theorem dc_P_part_82 : decode mb_P_part 82 = .ok (.iinc 4 1, 3) := by decide +kernel
theorem dc_P_part_85 : decode mb_P_part 85 = .ok (.iinc 5 (-1), 3) := by decide +kernel
theorem dc_P_part_88 : decode mb_P_part 88 = .ok (.goto (-78), 3) := by decide +kernel
theorem dc_P_part_91 : decode mb_P_part 91 = .ok (.aload_n 0, 1) := by decide +kernel
theorem dc_P_part_92 : decode mb_P_part 92 = .ok (.iload_n 2, 1) := by decide +kernel
theorem dc_P_part_93 : decode mb_P_part 93 = .ok (.iload 5, 2) := by decide +kernel
theorem dc_P_part_95 : decode mb_P_part 95 = .ok (.invokevirtual 24, 3) := by decide +kernel
theorem dc_P_part_98 : decode mb_P_part 98 = .ok (.iload 5, 2) := by decide +kernel
theorem dc_P_part_100 : decode mb_P_part 100 = .ok (.ireturn, 1) := by decide +kernel
theorem dc_P_arrange_0 : decode mb_P_arrange 0 = .ok (.iload_n 3, 1) := by decide +kernel
theorem dc_P_arrange_1 : decode mb_P_arrange 1 = .ok (.iload_n 2, 1) := by decide +kernel
theorem dc_P_arrange_2 : decode mb_P_arrange 2 = .ok (.isub, 1) := by decide +kernel
theorem dc_P_arrange_3 : decode mb_P_arrange 3 = .ok (.bipush 16, 2) := by decide +kernel
theorem dc_P_arrange_5 : decode mb_P_arrange 5 = .ok (.if_icmp .gt 14, 3) := by decide +kernel
theorem dc_P_arrange_8 : decode mb_P_arrange 8 = .ok (.aload_n 0, 1) := by decide +kernel
theorem dc_P_arrange_9 : decode mb_P_arrange 9 = .ok (.aload_n 1, 1) := by decide +kernel
theorem dc_P_arrange_10 : decode mb_P_arrange 10 = .ok (.iload_n 2, 1) := by decide +kernel
theorem dc_P_arrange_11 : decode mb_P_arrange 11 = .ok (.iload_n 2, 1) := by decide +kernel
theorem dc_P_arrange_12 : decode mb_P_arrange 12 = .ok (.iload_n 3, 1) := by decide +kernel
theorem dc_P_arrange_13 : decode mb_P_arrange 13 = .ok (.invokestatic 9, 3) := by decide +kernel
theorem dc_P_arrange_16 : decode mb_P_arrange 16 = .ok (.goto 74, 3) := by decide +kernel
theorem dc_P_arrange_19 : decode mb_P_arrange 19 = .ok (.iload 4, 2) := by decide +kernel
theorem dc_P_arrange_21 : decode mb_P_arrange 21 = .ok (.ifCond .gt 13, 3) := by decide +kernel
theorem dc_P_arrange_24 : decode mb_P_arrange 24 = .ok (.aload_n 0, 1) := by decide +kernel
theorem dc_P_arrange_25 : decode mb_P_arrange 25 = .ok (.aload_n 1, 1) := by decide +kernel
theorem dc_P_arrange_26 : decode mb_P_arrange 26 = .ok (.iload_n 2, 1) := by decide +kernel
theorem dc_P_arrange_27 : decode mb_P_arrange 27 = .ok (.iload_n 3, 1) := by decide +kernel
theorem dc_P_arrange_28 : decode mb_P_arrange 28 = .ok (.invokestatic 15, 3) := by decide +kernel
theorem dc_P_arrange_31 : decode mb_P_arrange 31 = .ok (.goto 59, 3) := by decide +kernel
theorem dc_P_arrange_34 : decode mb_P_arrange 34 = .ok (.aload_n 0, 1) := by decide +kernel
theorem dc_P_arrange_35 : decode mb_P_arrange 35 = .ok (.iload_n 2, 1) := by decide +kernel
theorem dc_P_arrange_36 : decode mb_P_arrange 36 = .ok (.aload_n 0, 1) := by decide +kernel
theorem dc_P_arrange_37 : decode mb_P_arrange 37 = .ok (.aload_n 1, 1) := by decide +kernel
theorem dc_P_arrange_38 : decode mb_P_arrange 38 = .ok (.iload_n 2, 1) := by decide +kernel
theorem dc_P_arrange_39 : decode mb_P_arrange 39 = .ok (.iload_n 2, 1) := by decide +kernel
theorem dc_P_arrange_40 : decode mb_P_arrange 40 = .ok (.iload_n 3, 1) := by decide +kernel
theorem dc_P_arrange_41 : decode mb_P_arrange 41 = .ok (.iload_n 2, 1) := by decide +kernel
theorem dc_P_arrange_42 : decode mb_P_arrange 42 = .ok (.isub, 1) := by decide +kernel
theorem dc_P_arrange_43 : decode mb_P_arrange 43 = .ok (.iconst 2, 1) := by decide +kernel
theorem dc_P_arrange_44 : decode mb_P_arrange 44 = .ok (.idiv, 1) := by decide +kernel
theorem dc_P_arrange_45 : decode mb_P_arrange 45 = .ok (.iadd, 1) := by decide +kernel
theorem dc_P_arrange_46 : decode mb_P_arrange 46 = .ok (.iload_n 3, 1) := by decide +kernel
theorem dc_P_arrange_47 : decode mb_P_arrange 47 = .ok (.iconst 1, 1) := by decide +kernel
theorem dc_P_arrange_48 : decode mb_P_arrange 48 = .ok (.isub, 1) := by decide +kernel
theorem dc_P_arrange_49 : decode mb_P_arrange 49 = .ok (.invokestatic 20, 3) := by decide +kernel
theorem dc_P_arrange_52 : decode mb_P_arrange 52 = .ok (.invokevirtual 24, 3) := by decide +kernel
theorem dc_P_arrange_55 : decode mb_P_arrange 55 = .ok (.aload_n 0, 1) := by decide +kernel
theorem dc_P_arrange_56 : decode mb_P_arrange 56 = .ok (.aload_n 1, 1) := by decide +kernel
theorem dc_P_arrange_57 : decode mb_P_arrange 57 = .ok (.iload_n 2, 1) := by decide +kernel
theorem dc_P_arrange_58 : decode mb_P_arrange 58 = .ok (.iload_n 3, 1) := by decide +kernel
theorem dc_P_arrange_59 : decode mb_P_arrange 59 = .ok (.invokestatic 30, 3) := by decide +kernel
theorem dc_P_arrange_62 : decode mb_P_arrange 62 = .ok (.istore 5, 2) := by decide +kernel
theorem dc_P_arrange_64 : decode mb_P_arrange 64 = .ok (.aload_n 0, 1) := by decide +kernel
theorem dc_P_arrange_65 : decode mb_P_arrange 65 = .ok (.aload_n 1, 1) := by decide +kernel
theorem dc_P_arrange_66 : decode mb_P_arrange 66 = .ok (.iload_n 2, 1) := by decide +kernel
theorem dc_P_arrange_67 : decode mb_P_arrange 67 = .ok (.iload 5, 2) := by decide +kernel
theorem dc_P_arrange_69 : decode mb_P_arrange 69 = .ok (.iload 4, 2) := by decide +kernel
theorem dc_P_arrange_71 : decode mb_P_arrange 71 = .ok (.iconst 1, 1) := by decide +kernel
theorem dc_P_arrange_72 : decode mb_P_arrange 72 = .ok (.isub, 1) := by decide +kernel
theorem dc_P_arrange_73 : decode mb_P_arrange 73 = .ok (.invokestatic 34, 3) := by decide +kernel
theorem dc_P_arrange_76 : decode mb_P_arrange 76 = .ok (.aload_n 0, 1) := by decide +kernel
theorem dc_P_arrange_77 : decode mb_P_arrange 77 = .ok (.aload_n 1, 1) := by decide +kernel
theorem dc_P_arrange_78 : decode mb_P_arrange 78 = .ok (.iload 5, 2) := by decide +kernel
theorem dc_P_arrange_80 : decode mb_P_arrange 80 = .ok (.iconst 1, 1) := by decide +kernel
theorem dc_P_arrange_81 : decode mb_P_arrange 81 = .ok (.iadd, 1) := by decide +kernel
theorem dc_P_arrange_82 : decode mb_P_arrange 82 = .ok (.iload_n 3, 1) := by decide +kernel
theorem dc_P_arrange_83 : decode mb_P_arrange 83 = .ok (.iload 4, 2) := by decide +kernel
theorem dc_P_arrange_85 : decode mb_P_arrange 85 = .ok (.iconst 1, 1) := by decide +kernel
theorem dc_P_arrange_86 : decode mb_P_arrange 86 = .ok (.isub, 1) := by decide +kernel
theorem dc_P_arrange_87 : decode mb_P_arrange 87 = .ok (.invokestatic 34, 3) := by decide +kernel
theorem dc_P_arrange_90 : decode mb_P_arrange 90 = .ok (.return_, 1) := by decide +kernel
theorem zo_seg {α : Type} {r : α → Int} {f : Nat → α} {a b : Nat} : zo r (zs f a (b - a)) ↔ ∀ i j, a ≤ i → i < j → j < b → r (f i) ≤ r (f j) := by
  rw [zo_zs]
  constructor
  · intro h i j h1 h2 h3
    have := h (i - a) (j - a) (by omega) (by omega)
    rwa [show a + (i - a) = i by omega, show a + (j - a) = j by omega] at this
  · intro h i j h1 h2
    exact h _ _ (by omega) (by omega) (by omega)
theorem zpm_mem {α : Type} {f g : Nat → α} {a b : Nat} (h : (zs f a (b - a)).Perm (zs g a (b - a))) : ∀ j, a ≤ j → j < b → ∃ k, a ≤ k ∧ k < b ∧ f j = g k := by
  intro j h1 h2
  have h3 : f j ∈ zs g a (b - a) := h.mem_iff.mp (zs_mem.mpr ⟨j - a, by omega, by rw [show a + (j - a) = j by omega]⟩)
  obtain ⟨k, hk, e⟩ := zs_mem.mp h3
  exact ⟨a + k, by omega, by omega, e.symm⟩
theorem zpm_in {α : Type} {f g : Nat → α} {a b p q : Nat} (h1 : a ≤ p) (h2 : p ≤ q) (h3 : q ≤ b) (h : (zs f p (q - p)).Perm (zs g p (q - p))) (ho : ∀ j, j < p ∨ q ≤ j → f j = g j) : (zs f a (b - a)).Perm (zs g a (b - a)) := by
  have e : ∀ w : Nat → α, zs w a (b - a) = zs w a (p - a) ++ (zs w p (q - p) ++ zs w q (b - q)) := fun w => by
    rw [zs_split w a (show p - a ≤ b - a by omega), show a + (p - a) = p by omega, show b - a - (p - a) = b - p by omega, zs_split w p (show q - p ≤ b - p by omega), show p + (q - p) = q by omega, show b - p - (q - p) = b - q by omega]
  rw [e f, e g]
  refine List.Perm.append (List.Perm.of_eq (zs_congr (fun j hj => ho _ (by omega)))) (List.Perm.append h (List.Perm.of_eq (zs_congr (fun j hj => ho _ (by omega)))))
/-- halfway through a parting -/
def zP {α : Type} (r : α → Int) (f0 f1 : Nat → α) (a b lo hi : Nat) : Prop :=
  (a < lo ∧ lo ≤ b ∧ a ≤ hi ∧ hi < b) ∧ (zs f1 a (b - a)).Perm (zs f0 a (b - a)) ∧ (∀ j, j < a ∨ b ≤ j → f1 j = f0 j) ∧ (∀ j, a < j → j < lo → r (f1 j) ≤ r (f1 a)) ∧ (∀ j, hi < j → j < b → r (f1 a) ≤ r (f1 j))
theorem zP_low {α : Type} {r : α → Int} {f0 f1 : Nat → α} {a b lo hi : Nat} (h : zP r f0 f1 a b lo hi) (hl : lo ≤ hi) (hx : r (f1 lo) ≤ r (f1 a)) : zP r f0 f1 a b (lo + 1) hi := by
  obtain ⟨h1, h2, h3, h4, h5⟩ := h
  refine ⟨by omega, h2, h3, fun j q1 q2 => ?_, h5⟩
  by_cases e : j = lo
  · subst e; exact hx
  · exact h4 j q1 (by omega)
theorem zP_high {α : Type} {r : α → Int} {f0 f1 : Nat → α} {a b lo hi : Nat} (h : zP r f0 f1 a b lo hi) (hl : lo ≤ hi) (hx : r (f1 a) ≤ r (f1 hi)) : zP r f0 f1 a b lo (hi - 1) := by
  obtain ⟨h1, h2, h3, h4, h5⟩ := h
  refine ⟨by omega, h2, h3, h4, fun j q1 q2 => ?_⟩
  by_cases e : j = hi
  · subst e; exact hx
  · exact h5 j (by omega) q2
theorem zw_l {α : Type} (f : Nat → α) (i j : Nat) : zw f i j i = f j := by
  unfold zw va_up
  by_cases h : i = j
  · subst h; simp
  · simp [h]
theorem zw_r {α : Type} (f : Nat → α) (i j : Nat) : zw f i j j = f i := by unfold zw; rw [va_up_self]
theorem zw_o {α : Type} (f : Nat → α) {i j k : Nat} (h1 : k ≠ i) (h2 : k ≠ j) : zw f i j k = f k := by unfold zw; rw [va_up_ne _ _ h2, va_up_ne _ _ h1]
theorem zP_change {α : Type} {r : α → Int} {f0 f1 : Nat → α} {a b lo hi : Nat} (h : zP r f0 f1 a b lo hi) (hl : lo ≤ hi) (hx : r (f1 a) ≤ r (f1 lo)) (hy : r (f1 hi) ≤ r (f1 a)) : zP r f0 (zw f1 lo hi) a b (lo + 1) (hi - 1) := by
  obtain ⟨h1, h2, h3, h4, h5⟩ := h
  have ea : zw f1 lo hi a = f1 a := zw_o f1 (by omega) (by omega)
  refine ⟨by omega, (zw_perm f1 (by omega) (by omega) (by omega) (by omega)).trans h2, fun j q => ?_, fun j q1 q2 => ?_, fun j q1 q2 => ?_⟩
  · rw [zw_o f1 (by omega) (by omega)]; exact h3 j q
  · rw [ea]
    by_cases e : j = lo
    · subst e; rw [zw_l]; exact hy
    · rw [zw_o f1 e (by omega)]; exact h4 j q1 (by omega)
  · rw [ea]
    by_cases e : j = hi
    · subst e; rw [zw_r]; exact hx
    · rw [zw_o f1 (by omega) e]; exact h5 j (by omega) q2
theorem zP_end {α : Type} {r : α → Int} {f0 f1 : Nat → α} {a b lo hi : Nat} (h : zP r f0 f1 a b lo hi) (hl : hi < lo) : (zs (zw f1 a hi) a (b - a)).Perm (zs f0 a (b - a)) ∧ (∀ j, j < a ∨ b ≤ j → zw f1 a hi j = f0 j) ∧ (∀ j, a ≤ j → j < hi → r (zw f1 a hi j) ≤ r (zw f1 a hi hi)) ∧ (∀ j, hi < j → j < b → r (zw f1 a hi hi) ≤ r (zw f1 a hi j)) := by
  obtain ⟨h1, h2, h3, h4, h5⟩ := h
  refine ⟨(zw_perm f1 (by omega) (by omega) (by omega) (by omega)).trans h2, fun j q => ?_, fun j q1 q2 => ?_, fun j q1 q2 => ?_⟩
  · rw [zw_o f1 (by omega) (by omega)]; exact h3 j q
  · rw [zw_r]
    by_cases e : j = a
    · subst e; rw [zw_l]; exact h4 hi (by omega) (by omega)
    · rw [zw_o f1 e (by omega)]; exact h4 j (by omega) (by omega)
  · rw [zw_r, zw_o f1 (by omega) (by omega)]
    exact h5 j q1 q2
/-- both sides of a parting in order -/
theorem zP_both {α : Type} {r : α → Int} {f1 f2 f3 : Nat → α} {a b h : Nat} (hah : a ≤ h) (hhb : h < b) (hl : ∀ j, a ≤ j → j < h → r (f1 j) ≤ r (f1 h)) (hr : ∀ j, h < j → j < b → r (f1 h) ≤ r (f1 j))
    (p2 : (zs f2 a (h - a)).Perm (zs f1 a (h - a))) (o2 : ∀ j, j < a ∨ h ≤ j → f2 j = f1 j) (s2 : zo r (zs f2 a (h - a))) (p3 : (zs f3 (h + 1) (b - (h + 1))).Perm (zs f2 (h + 1) (b - (h + 1)))) (o3 : ∀ j, j < h + 1 ∨ b ≤ j → f3 j = f2 j) (s3 : zo r (zs f3 (h + 1) (b - (h + 1)))) :
    (zs f3 a (b - a)).Perm (zs f1 a (b - a)) ∧ (∀ j, j < a ∨ b ≤ j → f3 j = f1 j) ∧ zo r (zs f3 a (b - a)) := by
  refine ⟨(zpm_in (by omega) (by omega) (Nat.le_refl _) p3 o3).trans (zpm_in (Nat.le_refl _) hah (by omega) p2 o2), fun j q => by rw [o3 j (by omega), o2 j (by omega)], zo_seg.mpr (fun i j q1 q2 q3 => ?_)⟩
  have k1 : ∀ j, a ≤ j → j < h → r (f3 j) ≤ r (f1 h) := fun j e1 e2 => by
    rw [o3 j (by omega)]
    obtain ⟨k, e3, e4, e5⟩ := zpm_mem p2 j e1 e2
    rw [e5]; exact hl k e3 e4
  have k2 : f3 h = f1 h := by rw [o3 h (by omega), o2 h (by omega)]
  have k3 : ∀ j, h < j → j < b → r (f1 h) ≤ r (f3 j) := fun j e1 e2 => by
    obtain ⟨k, e3, e4, e5⟩ := zpm_mem p3 j (by omega) e2
    rw [e5, o2 k (by omega)]; exact hr k (by omega) e4
  rcases Nat.lt_trichotomy j h with hj | hj | hj
  · rw [o3 i (by omega), o3 j (by omega)]
    exact zo_seg.mp s2 i j q1 q2 hj
  · subst hj; rw [k2]; exact k1 i q1 q2
  · rcases Nat.lt_trichotomy i h with hi | hi | hi
    · exact Int.le_trans (k1 i q1 hi) (k3 j hj q3)
    · subst hi; rw [k2]; exact k3 j hj q3
    · exact zo_seg.mp s3 i j (by omega) q2 q3
theorem zsm_4 (a : Nat) : ∀ n, zsm (fun _ => 4) a n = 4 * n
  | 0 => rfl
  | n + 1 => by show zsm (fun _ => 4) a n + 4 = _; rw [zsm_4 a n]; omega
set_option maxHeartbeats 4000000 in
set_option maxRecDepth 100000 in
theorem ct_P_middleOfThree (l : Launch) (g : YG) (S : YS) (od : Nat) (tg : Bool) (c : Nat) (hJ : yJ S od tg c) (r : Nat) (hr : r < 6) (i j k : Nat) (hi : i < 1024) (hj : j < 1024) (hk : k < 1024) : yC l mn_P_middleOfThree mb_P_middleOfThree 8 (some .int) 4 g [.ref (g.ad (2 + r)), .ref (g.ad (20)), .int (nI (i)), .int (nI (j)), .int (nI (k))] S (fun v S' => ∃ m c', v = some (.int (nI m)) ∧ S' = yq S c' ∧ (m = i ∨ m = j ∨ m = k) ∧ c ≤ c' ∧ c' ≤ c + 3) := by
  refine yC_of (by decide) (Nat.le_of_ble_eq_true rfl) ?_
  intro o hl hg hB0 hE
  subst hl
  subst hg
  have hB : yB o mb_P_middleOfThree "OrderBench$Parting" := hB0
  have hm := hE.1
  show yW o (S) 0 [(0, .ref (o.G.ad (2 + r))), (1, .ref (o.G.ad (20))), (2, .int (nI (i))), (3, .int (nI (j))), (4, .int (nI (k)))] []
  refine y_aload_n (pc' := 1) hB dc_P_middleOfThree_0 rfl rfl 1 rfl ?_
  refine y_aload_n (pc' := 2) hB dc_P_middleOfThree_1 rfl rfl 0 rfl ?_
  refine y_iload_n (pc' := 3) hB dc_P_middleOfThree_2 rfl rfl 2 rfl ?_
  refine y_aload_n (pc' := 4) hB dc_P_middleOfThree_3 rfl rfl 0 rfl ?_
  refine y_iload_n (pc' := 5) hB dc_P_middleOfThree_4 rfl rfl 3 rfl ?_
  refine y_callV (c := 20) (ci := 2) (As := [.ref (o.G.ad (2 + r)), .int (nI (i)), .ref (o.G.ad (2 + r)), .int (nI (j))]) (rest := []) (pc' := 8) hB hE (ct_J_before o.l o.G S od tg c hJ r hr r hr i j hi hj) mm_J_before q_423 q_405 q_406 (by decide) rfl rfl dc_P_middleOfThree_5 rfl (by decide) rfl rfl (Nat.le_of_ble_eq_true rfl) (fun v S' hpost => ?_)
  obtain ⟨rfl, hSS⟩ := hpost
  rw [hSS]
  clear hSS S'
  show yW o (yq S (c + 1)) 8 [(0, .ref (o.G.ad (2 + r))), (1, .ref (o.G.ad (20))), (2, .int (nI (i))), (3, .int (nI (j))), (4, .int (nI (k)))] [.int (yb (decide (zq od tg (ye S r i) < zq od tg (ye S r j))))]
  obtain ⟨B, hBB⟩ : ∃ z, z = decide (zq od tg (ye S r i) < zq od tg (ye S r j)) := ⟨_, rfl⟩
  rw [← hBB]
  refine y_istore (pc' := 10) (lv' := [(5, .int (yb B)), (0, .ref (o.G.ad (2 + r))), (1, .ref (o.G.ad (20))), (2, .int (nI (i))), (3, .int (nI (j))), (4, .int (nI (k)))]) hB hm dc_P_middleOfThree_8 rfl (by decide) rfl ?_
  refine y_iload (pc' := 12) hB dc_P_middleOfThree_10 rfl 0 rfl ?_
  have fin : ∀ s t, (s = i ∨ s = j) → (t = i ∨ t = j) → yW o (yq S (c + 1)) 34 [(7, .int (nI (s))), (6, .int (nI (t))), (5, .int (yb B)), (0, .ref (o.G.ad (2 + r))), (1, .ref (o.G.ad (20))), (2, .int (nI (i))), (3, .int (nI (j))), (4, .int (nI (k)))] [] := by
    intro s t hs ht
    refine y_aload_n (pc' := 35) hB dc_P_middleOfThree_34 rfl rfl 4 rfl ?_
    refine y_aload_n (pc' := 36) hB dc_P_middleOfThree_35 rfl rfl 3 rfl ?_
    refine y_iload (pc' := 38) hB dc_P_middleOfThree_36 rfl 7 rfl ?_
    refine y_aload_n (pc' := 39) hB dc_P_middleOfThree_38 rfl rfl 3 rfl ?_
    refine y_iload (pc' := 41) hB dc_P_middleOfThree_39 rfl 0 rfl ?_
    refine y_callV (c := 20) (ci := 2) (As := [.ref (o.G.ad (2 + r)), .int (nI (k)), .ref (o.G.ad (2 + r)), .int (nI (s))]) (rest := []) (pc' := 44) hB hE (ct_J_before o.l o.G (yq S (c + 1)) od tg (c + 1) (yJ_yq hJ (c + 1)) r hr r hr k s hk (by omega)) mm_J_before q_423 q_405 q_406 (by decide) rfl rfl dc_P_middleOfThree_41 rfl (by decide) rfl rfl (Nat.le_of_ble_eq_true rfl) (fun v S' hpost => ?_)
    obtain ⟨rfl, hSS⟩ := hpost
    rw [hSS]
    clear hSS S'
    show yW o (yq (yq S (c + 1)) (c + 1 + 1)) 44 [(7, .int (nI (s))), (6, .int (nI (t))), (5, .int (yb B)), (0, .ref (o.G.ad (2 + r))), (1, .ref (o.G.ad (20))), (2, .int (nI (i))), (3, .int (nI (j))), (4, .int (nI (k)))] [.int (yb (decide (zq od tg (ye (yq S (c + 1)) r k) < zq od tg (ye (yq S (c + 1)) r s))))]
    rw [yq_yq]
    refine y_if_ne (x := yb (decide (zq od tg (ye (yq S (c + 1)) r k) < zq od tg (ye (yq S (c + 1)) r s)))) (pc' := 47) (tg := 50) hB dc_P_middleOfThree_44 rfl rfl (fun h1 => ?_) (fun h1 => ?_)
    · refine y_aload_n (pc' := 51) hB dc_P_middleOfThree_50 rfl rfl 4 rfl ?_
      refine y_aload_n (pc' := 52) hB dc_P_middleOfThree_51 rfl rfl 3 rfl ?_
      refine y_iload (pc' := 54) hB dc_P_middleOfThree_52 rfl 7 rfl ?_
      refine y_aload_n (pc' := 55) hB dc_P_middleOfThree_54 rfl rfl 3 rfl ?_
      refine y_iload (pc' := 57) hB dc_P_middleOfThree_55 rfl 1 rfl ?_
      refine y_callV (c := 20) (ci := 2) (As := [.ref (o.G.ad (2 + r)), .int (nI (k)), .ref (o.G.ad (2 + r)), .int (nI (t))]) (rest := []) (pc' := 60) hB hE (ct_J_before o.l o.G (yq S (c + 1 + 1)) od tg (c + 1 + 1) (yJ_yq hJ (c + 1 + 1)) r hr r hr k t hk (by omega)) mm_J_before q_423 q_405 q_406 (by decide) rfl rfl dc_P_middleOfThree_57 rfl (by decide) rfl rfl (Nat.le_of_ble_eq_true rfl) (fun v S' hpost => ?_)
      obtain ⟨rfl, hSS⟩ := hpost
      rw [hSS]
      clear hSS S'
      show yW o (yq (yq S (c + 1 + 1)) (c + 1 + 1 + 1)) 60 [(7, .int (nI (s))), (6, .int (nI (t))), (5, .int (yb B)), (0, .ref (o.G.ad (2 + r))), (1, .ref (o.G.ad (20))), (2, .int (nI (i))), (3, .int (nI (j))), (4, .int (nI (k)))] [.int (yb (decide (zq od tg (ye (yq S (c + 1 + 1)) r k) < zq od tg (ye (yq S (c + 1 + 1)) r t))))]
      rw [yq_yq]
      refine y_if_eq (x := yb (decide (zq od tg (ye (yq S (c + 1 + 1)) r k) < zq od tg (ye (yq S (c + 1 + 1)) r t)))) (pc' := 63) (tg := 68) hB dc_P_middleOfThree_60 rfl rfl (fun h2 => ?_) (fun h2 => ?_)
      · refine y_iload (pc' := 70) hB dc_P_middleOfThree_68 rfl 7 rfl ?_
        exact y_iret hB hE dc_P_middleOfThree_70 ⟨k, _, rfl, rfl, Or.inr (Or.inr rfl), by omega, by omega⟩
      · refine y_iload (pc' := 65) hB dc_P_middleOfThree_63 rfl 1 rfl ?_
        refine y_goto (tg := 70) hB dc_P_middleOfThree_65 rfl ?_
        exact y_iret hB hE dc_P_middleOfThree_70 ⟨t, _, rfl, rfl, by omega, by omega, by omega⟩
    · refine y_iload (pc' := 49) hB dc_P_middleOfThree_47 rfl 0 rfl ?_
      exact y_iret hB hE dc_P_middleOfThree_49 ⟨s, _, rfl, rfl, by omega, by omega, by omega⟩
  refine y_if_eq (x := yb B) (pc' := 15) (tg := 19) hB dc_P_middleOfThree_12 rfl rfl (fun h3 => ?_) (fun h3 => ?_)
  · refine y_iload_n (pc' := 20) hB dc_P_middleOfThree_19 rfl rfl 4 rfl ?_
    refine y_istore (pc' := 22) (lv' := [(6, .int (nI (j))), (5, .int (yb B)), (0, .ref (o.G.ad (2 + r))), (1, .ref (o.G.ad (20))), (2, .int (nI (i))), (3, .int (nI (j))), (4, .int (nI (k)))]) hB hm dc_P_middleOfThree_20 rfl (by decide) rfl ?_
    refine y_iload (pc' := 24) hB dc_P_middleOfThree_22 rfl 1 rfl ?_
    refine y_if_eq (x := yb B) (pc' := 27) (tg := 31) hB dc_P_middleOfThree_24 rfl rfl (fun h4 => ?_) (fun h4 => ?_)
    · refine y_iload_n (pc' := 32) hB dc_P_middleOfThree_31 rfl rfl 4 rfl ?_
      refine y_istore (pc' := 34) (lv' := [(7, .int (nI (i))), (6, .int (nI (j))), (5, .int (yb B)), (0, .ref (o.G.ad (2 + r))), (1, .ref (o.G.ad (20))), (2, .int (nI (i))), (3, .int (nI (j))), (4, .int (nI (k)))]) hB hm dc_P_middleOfThree_32 rfl (by decide) rfl ?_
      refine y_sub [0, 1, 2, 3, 4, 5, 6, 7] rfl ?_
      exact fin i j (by omega) (by omega)
    · refine y_iload_n (pc' := 28) hB dc_P_middleOfThree_27 rfl rfl 5 rfl ?_
      refine y_goto (tg := 32) hB dc_P_middleOfThree_28 rfl ?_
      refine y_istore (pc' := 34) (lv' := [(7, .int (nI (j))), (6, .int (nI (j))), (5, .int (yb B)), (0, .ref (o.G.ad (2 + r))), (1, .ref (o.G.ad (20))), (2, .int (nI (i))), (3, .int (nI (j))), (4, .int (nI (k)))]) hB hm dc_P_middleOfThree_32 rfl (by decide) rfl ?_
      refine y_sub [0, 1, 2, 3, 4, 5, 6, 7] rfl ?_
      exact fin j j (by omega) (by omega)
  · refine y_iload_n (pc' := 16) hB dc_P_middleOfThree_15 rfl rfl 3 rfl ?_
    refine y_goto (tg := 20) hB dc_P_middleOfThree_16 rfl ?_
    refine y_istore (pc' := 22) (lv' := [(6, .int (nI (i))), (5, .int (yb B)), (0, .ref (o.G.ad (2 + r))), (1, .ref (o.G.ad (20))), (2, .int (nI (i))), (3, .int (nI (j))), (4, .int (nI (k)))]) hB hm dc_P_middleOfThree_20 rfl (by decide) rfl ?_
    refine y_iload (pc' := 24) hB dc_P_middleOfThree_22 rfl 1 rfl ?_
    refine y_if_eq (x := yb B) (pc' := 27) (tg := 31) hB dc_P_middleOfThree_24 rfl rfl (fun h4 => ?_) (fun h4 => ?_)
    · refine y_iload_n (pc' := 32) hB dc_P_middleOfThree_31 rfl rfl 4 rfl ?_
      refine y_istore (pc' := 34) (lv' := [(7, .int (nI (i))), (6, .int (nI (i))), (5, .int (yb B)), (0, .ref (o.G.ad (2 + r))), (1, .ref (o.G.ad (20))), (2, .int (nI (i))), (3, .int (nI (j))), (4, .int (nI (k)))]) hB hm dc_P_middleOfThree_32 rfl (by decide) rfl ?_
      refine y_sub [0, 1, 2, 3, 4, 5, 6, 7] rfl ?_
      exact fin i i (by omega) (by omega)
    · refine y_iload_n (pc' := 28) hB dc_P_middleOfThree_27 rfl rfl 5 rfl ?_
      refine y_goto (tg := 32) hB dc_P_middleOfThree_28 rfl ?_
      refine y_istore (pc' := 34) (lv' := [(7, .int (nI (j))), (6, .int (nI (i))), (5, .int (yb B)), (0, .ref (o.G.ad (2 + r))), (1, .ref (o.G.ad (20))), (2, .int (nI (i))), (3, .int (nI (j))), (4, .int (nI (k)))]) hB hm dc_P_middleOfThree_32 rfl (by decide) rfl ?_
      refine y_sub [0, 1, 2, 3, 4, 5, 6, 7] rfl ?_
      exact fin j i (by omega) (by omega)
set_option maxHeartbeats 4000000 in
set_option maxRecDepth 100000 in
theorem ct_P_part (l : Launch) (g : YG) (S : YS) (od : Nat) (tg : Bool) (c : Nat) (hJ : yJ S od tg c) (r : Nat) (hr : r < 6) (a b : Nat) (hab : a < b) (hb : b ≤ 1024) : yC l mn_P_part mb_P_part 6 (some .int) 4 g [.ref (g.ad (2 + r)), .ref (g.ad (20)), .int (nI (a)), .int (nI (b))] S (fun v S' => ∃ h f' c', v = some (.int (nI h)) ∧ S' = yq (yz S r f') c' ∧ (a ≤ h ∧ h < b) ∧ (zs f' a (b - a)).Perm (zs (ye S r) a (b - a)) ∧ (∀ j, j < a ∨ b ≤ j → f' j = (ye S r) j) ∧ (∀ j, a ≤ j → j < h → zq od tg (f' j) ≤ zq od tg (f' h)) ∧ (∀ j, h < j → j < b → zq od tg (f' h) ≤ zq od tg (f' j)) ∧ c ≤ c' ∧ c' ≤ c + (b - a)) := by
  refine yC_of (by decide) (Nat.le_of_ble_eq_true rfl) ?_
  intro o hl hg hB0 hE
  subst hl
  subst hg
  have hB : yB o mb_P_part "OrderBench$Parting" := hB0
  have hm := hE.1
  show yW o (S) 0 [(0, .ref (o.G.ad (2 + r))), (1, .ref (o.G.ad (20))), (2, .int (nI (a))), (3, .int (nI (b)))] []
  refine y_iload_n (pc' := 1) hB dc_P_part_0 rfl rfl 2 rfl ?_
  refine y_iconst (v := nI 1) (pc' := 2) hB dc_P_part_1 rfl rfl ?_
  refine n_iadd (x := a) (y := 1) (pc' := 3) hB dc_P_part_2 rfl ?_
  refine y_istore (pc' := 5) (lv' := [(4, .int (nI (a + 1))), (0, .ref (o.G.ad (2 + r))), (1, .ref (o.G.ad (20))), (2, .int (nI (a))), (3, .int (nI (b)))]) hB hm dc_P_part_3 rfl (by decide) rfl ?_
  refine y_iload_n (pc' := 6) hB dc_P_part_5 rfl rfl 4 rfl ?_
  refine y_iconst (v := nI 1) (pc' := 7) hB dc_P_part_6 rfl rfl ?_
  refine n_isub (x := b) (y := 1) (pc' := 8) hB dc_P_part_7 rfl (by omega) ?_
  refine y_istore (pc' := 10) (lv' := [(5, .int (nI (b - 1))), (4, .int (nI (a + 1))), (0, .ref (o.G.ad (2 + r))), (1, .ref (o.G.ad (20))), (2, .int (nI (a))), (3, .int (nI (b)))]) hB hm dc_P_part_8 rfl (by decide) rfl ?_
  have loop : ∀ (d : Nat) (lo hi e : Nat) (f1 : Nat → Int64 × Int32), hi + 1 - lo < d → zP (zq od tg) (ye S r) f1 a b lo hi → (lo ≤ hi → e + (hi + 1 - lo) ≤ b - a - 1) → e ≤ b - a → yW o (yq (yz S r f1) (c + e)) 10 [(5, .int (nI (hi))), (4, .int (nI (lo))), (0, .ref (o.G.ad (2 + r))), (1, .ref (o.G.ad (20))), (2, .int (nI (a))), (3, .int (nI (b)))] [] := by
    intro d
    induction d with
    | zero => intro lo hi e f1 hd; omega
    | succ d ih =>
      intro lo hi e f1 hd h1 h2 h3
      have go : 1 ≤ d → ∀ (lo hi e : Nat) (f1 : Nat → Int64 × Int32), hi + 1 - lo ≤ d → zP (zq od tg) (ye S r) f1 a b lo hi → (lo ≤ hi → zq od tg (f1 a) ≤ zq od tg (f1 lo) ∧ zq od tg (f1 hi) ≤ zq od tg (f1 a) ∧ e + (hi + 1 - lo) ≤ b - a + 1) → (hi < lo → e ≤ b - a) → yW o (yq (yz S r f1) (c + e)) 67 [(5, .int (nI (hi))), (4, .int (nI (lo))), (0, .ref (o.G.ad (2 + r))), (1, .ref (o.G.ad (20))), (2, .int (nI (a))), (3, .int (nI (b)))] [] := by
        intro hd1 lo hi e f1 q0 q1 q2 q3
        have q4 := q1.1
        refine y_iload (pc' := 69) hB dc_P_part_67 rfl 1 rfl ?_
        refine y_iload (pc' := 71) hB dc_P_part_69 rfl 0 rfl ?_
        refine n_icmp_gt (pc' := 74) (tg := 10) hB dc_P_part_71 rfl rfl (by omega) (by omega) (fun hb1 => ?_) (fun hb1 => ?_)
        · exact ih lo hi e f1 (by omega) q1 (fun _ => by omega) (q3 hb1)
        · obtain ⟨q5, q6, q7⟩ := q2 (by omega)
          refine y_aload_n (pc' := 75) hB dc_P_part_74 rfl rfl 2 rfl ?_
          refine y_iload (pc' := 77) hB dc_P_part_75 rfl 1 rfl ?_
          refine y_iload (pc' := 79) hB dc_P_part_77 rfl 0 rfl ?_
          refine y_callV (c := 2 + r) (ci := 1) (As := [.int (nI (lo)), .int (nI (hi))]) (rest := []) (pc' := 82) hB hE (ct_R_change o.l o.G (yq (yz S r f1) (c + e)) r hr lo hi (by omega) (by omega)) mm_R_change q_424 q_288 q_289 (by unfold yN; omega) (yk_row (by omega)).1 rfl dc_P_part_79 rfl (by decide) rfl rfl (Nat.le_of_ble_eq_true rfl) (fun v S' hpost => ?_)
          obtain ⟨rfl, hSS⟩ := hpost
          rw [hSS]
          clear hSS S'
          show yW o (yz (yq (yz S r f1) (c + e)) r (zw (ye (yq (yz S r f1) (c + e)) r) lo hi)) 82 [(5, .int (nI (hi))), (4, .int (nI (lo))), (0, .ref (o.G.ad (2 + r))), (1, .ref (o.G.ad (20))), (2, .int (nI (a))), (3, .int (nI (b)))] []
          have hS : yz (yq (yz S r f1) (c + e)) r (zw (ye (yq (yz S r f1) (c + e)) r) lo hi) = yq (yz S r (zw f1 lo hi)) (c + e) := by
            rw [ye_yq, ye_yz]
            show yq (yz (yz S r _) r _) _ = _
            rw [yz_yz]
          rw [hS]
          refine n_inc (q := 1) (z := 1) (pc' := 85) (lv' := [(4, .int (nI (lo + 1))), (5, .int (nI (hi))), (0, .ref (o.G.ad (2 + r))), (1, .ref (o.G.ad (20))), (2, .int (nI (a))), (3, .int (nI (b)))]) hB hm dc_P_part_82 rfl rfl (by decide) rfl ?_
          refine n_dec (q := 1) (pc' := 88) (lv' := [(5, .int (nI (hi - 1))), (4, .int (nI (lo + 1))), (0, .ref (o.G.ad (2 + r))), (1, .ref (o.G.ad (20))), (2, .int (nI (a))), (3, .int (nI (b)))]) hB hm dc_P_part_85 rfl (by omega) rfl (by decide) rfl ?_
          refine y_goto (tg := 10) hB dc_P_part_88 rfl ?_
          exact ih (lo + 1) (hi - 1) e _ (by omega) (zP_change q1 (by omega) q5 q6) (fun _ => by omega) (by omega)
      have lp : ∀ (lo : Nat) (f1 : Nat → Int64 × Int32) (d3 : Nat) (hi e : Nat), hi < d3 → 1 ≤ d → hi + 1 - lo ≤ d → zP (zq od tg) (ye S r) f1 a b lo hi → (lo ≤ hi → zq od tg (f1 a) ≤ zq od tg (f1 lo)) → e + (hi + 1 - lo) ≤ b - a → yW o (yq (yz S r f1) (c + e)) 42 [(5, .int (nI (hi))), (4, .int (nI (lo))), (0, .ref (o.G.ad (2 + r))), (1, .ref (o.G.ad (20))), (2, .int (nI (a))), (3, .int (nI (b)))] [] := by
        intro lo f1 d3
        induction d3 with
        | zero => intro hi e hd3; omega
        | succ d3 ih3 =>
          intro hi e hd3 q0 q00 q1 q2 q3
          have q4 := q1.1
          refine y_iload (pc' := 44) hB dc_P_part_42 rfl 1 rfl ?_
          refine y_iload (pc' := 46) hB dc_P_part_44 rfl 0 rfl ?_
          refine n_icmp_gt (pc' := 49) (tg := 67) hB dc_P_part_46 rfl rfl (by omega) (by omega) (fun hb1 => ?_) (fun hb1 => ?_)
          · exact go q0 lo hi e f1 q00 q1 (fun _ => by omega) (fun _ => by omega)
          · refine y_aload_n (pc' := 50) hB dc_P_part_49 rfl rfl 3 rfl ?_
            refine y_aload_n (pc' := 51) hB dc_P_part_50 rfl rfl 2 rfl ?_
            refine y_iload_n (pc' := 52) hB dc_P_part_51 rfl rfl 4 rfl ?_
            refine y_aload_n (pc' := 53) hB dc_P_part_52 rfl rfl 2 rfl ?_
            refine y_iload (pc' := 55) hB dc_P_part_53 rfl 0 rfl ?_
            refine y_callV (c := 20) (ci := 2) (As := [.ref (o.G.ad (2 + r)), .int (nI (a)), .ref (o.G.ad (2 + r)), .int (nI (hi))]) (rest := []) (pc' := 58) hB hE (ct_J_before o.l o.G (yq (yz S r f1) (c + e)) od tg (c + e) (yJ_yq (yJ_yz hJ r f1) _) r hr r hr a hi (by omega) (by omega)) mm_J_before q_423 q_405 q_406 (by decide) rfl rfl dc_P_part_55 rfl (by decide) rfl rfl (Nat.le_of_ble_eq_true rfl) (fun v S' hpost => ?_)
            obtain ⟨rfl, hSS⟩ := hpost
            rw [hSS]
            clear hSS S'
            show yW o (yq (yq (yz S r f1) (c + e)) (c + e + 1)) 58 [(5, .int (nI (hi))), (4, .int (nI (lo))), (0, .ref (o.G.ad (2 + r))), (1, .ref (o.G.ad (20))), (2, .int (nI (a))), (3, .int (nI (b)))] [.int (yb (decide (zq od tg (ye (yq (yz S r f1) (c + e)) r a) < zq od tg (ye (yq (yz S r f1) (c + e)) r hi))))]
            rw [yq_yq, ye_yq, ye_yz, Nat.add_assoc]
            refine y_if_eq (x := yb (decide (zq od tg (f1 a) < zq od tg (f1 hi)))) (pc' := 61) (tg := 67) hB dc_P_part_58 rfl rfl (fun hb2 => ?_) (fun hb2 => ?_)
            · rw [yb_0, decide_eq_false_iff_not] at hb2
              exact go q0 lo hi (e + 1) f1 q00 q1 (fun _ => ⟨q2 (by omega), by omega, by omega⟩) (fun _ => by omega)
            · rw [yb_n, decide_eq_true_eq] at hb2
              refine n_dec (q := 0) (pc' := 64) (lv' := [(5, .int (nI (hi - 1))), (4, .int (nI (lo))), (0, .ref (o.G.ad (2 + r))), (1, .ref (o.G.ad (20))), (2, .int (nI (a))), (3, .int (nI (b)))]) hB hm dc_P_part_61 rfl (by omega) rfl (by decide) rfl ?_
              refine y_goto (tg := 42) hB dc_P_part_64 rfl ?_
              refine y_sub [0, 1, 2, 3, 4, 5] rfl ?_
              exact ih3 (hi - 1) (e + 1) (by omega) q0 (by omega) (zP_high q1 (by omega) (by omega)) (fun _ => q2 (by omega)) (by omega)
      have lq : ∀ (d4 : Nat) (lo e : Nat), 1024 - lo < d4 → 1 ≤ d → hi + 1 - lo ≤ d → zP (zq od tg) (ye S r) f1 a b lo hi → e + (hi + 1 - lo) ≤ b - a - 1 → yW o (yq (yz S r f1) (c + e)) 17 [(5, .int (nI (hi))), (4, .int (nI (lo))), (0, .ref (o.G.ad (2 + r))), (1, .ref (o.G.ad (20))), (2, .int (nI (a))), (3, .int (nI (b)))] [] := by
        intro d4
        induction d4 with
        | zero => intro lo e hd4; omega
        | succ d4 ih4 =>
          intro lo e hd4 q0 q00 q1 q3
          have q4 := q1.1
          refine y_iload (pc' := 19) hB dc_P_part_17 rfl 1 rfl ?_
          refine y_iload (pc' := 21) hB dc_P_part_19 rfl 0 rfl ?_
          refine n_icmp_gt (pc' := 24) (tg := 42) hB dc_P_part_21 rfl rfl (by omega) (by omega) (fun hb1 => ?_) (fun hb1 => ?_)
          · exact lp lo f1 (hi + 1) hi e (by omega) q0 q00 q1 (fun _ => by omega) (by omega)
          · refine y_aload_n (pc' := 25) hB dc_P_part_24 rfl rfl 3 rfl ?_
            refine y_aload_n (pc' := 26) hB dc_P_part_25 rfl rfl 2 rfl ?_
            refine y_iload (pc' := 28) hB dc_P_part_26 rfl 1 rfl ?_
            refine y_aload_n (pc' := 29) hB dc_P_part_28 rfl rfl 2 rfl ?_
            refine y_iload_n (pc' := 30) hB dc_P_part_29 rfl rfl 4 rfl ?_
            refine y_callV (c := 20) (ci := 2) (As := [.ref (o.G.ad (2 + r)), .int (nI (lo)), .ref (o.G.ad (2 + r)), .int (nI (a))]) (rest := []) (pc' := 33) hB hE (ct_J_before o.l o.G (yq (yz S r f1) (c + e)) od tg (c + e) (yJ_yq (yJ_yz hJ r f1) _) r hr r hr lo a (by omega) (by omega)) mm_J_before q_423 q_405 q_406 (by decide) rfl rfl dc_P_part_30 rfl (by decide) rfl rfl (Nat.le_of_ble_eq_true rfl) (fun v S' hpost => ?_)
            obtain ⟨rfl, hSS⟩ := hpost
            rw [hSS]
            clear hSS S'
            show yW o (yq (yq (yz S r f1) (c + e)) (c + e + 1)) 33 [(5, .int (nI (hi))), (4, .int (nI (lo))), (0, .ref (o.G.ad (2 + r))), (1, .ref (o.G.ad (20))), (2, .int (nI (a))), (3, .int (nI (b)))] [.int (yb (decide (zq od tg (ye (yq (yz S r f1) (c + e)) r lo) < zq od tg (ye (yq (yz S r f1) (c + e)) r a))))]
            rw [yq_yq, ye_yq, ye_yz, Nat.add_assoc]
            refine y_if_eq (x := yb (decide (zq od tg (f1 lo) < zq od tg (f1 a)))) (pc' := 36) (tg := 42) hB dc_P_part_33 rfl rfl (fun hb2 => ?_) (fun hb2 => ?_)
            · rw [yb_0, decide_eq_false_iff_not] at hb2
              exact lp lo f1 (hi + 1) hi (e + 1) (by omega) q0 q00 q1 (fun _ => by omega) (by omega)
            · rw [yb_n, decide_eq_true_eq] at hb2
              refine n_inc (q := 1) (z := 1) (pc' := 39) (lv' := [(4, .int (nI (lo + 1))), (5, .int (nI (hi))), (0, .ref (o.G.ad (2 + r))), (1, .ref (o.G.ad (20))), (2, .int (nI (a))), (3, .int (nI (b)))]) hB hm dc_P_part_36 rfl rfl (by decide) rfl ?_
              refine y_goto (tg := 17) hB dc_P_part_39 rfl ?_
              refine y_sub [1, 0, 2, 3, 4, 5] rfl ?_
              exact ih4 (lo + 1) (e + 1) (by omega) q0 (by omega) (zP_low q1 (by omega) (by omega)) (by omega)
      have q4 := h1.1
      refine y_iload (pc' := 12) hB dc_P_part_10 rfl 1 rfl ?_
      refine y_iload (pc' := 14) hB dc_P_part_12 rfl 0 rfl ?_
      refine n_icmp_gt (pc' := 17) (tg := 91) hB dc_P_part_14 rfl rfl (by omega) (by omega) (fun hb1 => ?_) (fun hb1 => ?_)
      · refine y_aload_n (pc' := 92) hB dc_P_part_91 rfl rfl 2 rfl ?_
        refine y_iload_n (pc' := 93) hB dc_P_part_92 rfl rfl 4 rfl ?_
        refine y_iload (pc' := 95) hB dc_P_part_93 rfl 0 rfl ?_
        refine y_callV (c := 2 + r) (ci := 1) (As := [.int (nI (a)), .int (nI (hi))]) (rest := []) (pc' := 98) hB hE (ct_R_change o.l o.G (yq (yz S r f1) (c + e)) r hr a hi (by omega) (by omega)) mm_R_change q_424 q_288 q_289 (by unfold yN; omega) (yk_row (by omega)).1 rfl dc_P_part_95 rfl (by decide) rfl rfl (Nat.le_of_ble_eq_true rfl) (fun v S' hpost => ?_)
        obtain ⟨rfl, hSS⟩ := hpost
        rw [hSS]
        clear hSS S'
        show yW o (yz (yq (yz S r f1) (c + e)) r (zw (ye (yq (yz S r f1) (c + e)) r) a hi)) 98 [(5, .int (nI (hi))), (4, .int (nI (lo))), (0, .ref (o.G.ad (2 + r))), (1, .ref (o.G.ad (20))), (2, .int (nI (a))), (3, .int (nI (b)))] []
        have hS : yz (yq (yz S r f1) (c + e)) r (zw (ye (yq (yz S r f1) (c + e)) r) a hi) = yq (yz S r (zw f1 a hi)) (c + e) := by
          rw [ye_yq, ye_yz]
          show yq (yz (yz S r _) r _) _ = _
          rw [yz_yz]
        rw [hS]
        refine y_iload (pc' := 100) hB dc_P_part_98 rfl 0 rfl ?_
        obtain ⟨m1, m2, m3, m4⟩ := zP_end h1 hb1
        exact y_iret hB hE dc_P_part_100 ⟨hi, _, _, rfl, rfl, by omega, m1, m2, m3, m4, by omega, by omega⟩
      · exact lq 1025 lo e (by omega) (by omega) (by omega) h1 (by omega)
  have h0 := loop (b + 1) (a + 1) (b - 1) 0 (ye S r) (by omega) ⟨by omega, List.Perm.refl _, fun _ _ => rfl, fun j q1 q2 => by omega, fun j q1 q2 => by omega⟩ (by omega) (by omega)
  rw [yz_self, Nat.add_zero, yq_self hJ] at h0
  exact h0
set_option maxHeartbeats 4000000 in
set_option maxRecDepth 100000 in
theorem ct_P_arrange0 (l : Launch) (g : YG) (S : YS) (od : Nat) (tg : Bool) (c : Nat) (hJ : yJ S od tg c) (r : Nat) (hr : r < 6) (a b : Nat) (hab : a ≤ b) (hb : b ≤ 1024) (le : Nat) (hle : b - a ≤ 2 ^ le) : yC l mn_P_arrange mb_P_arrange 6 none 6 g [.ref (g.ad (2 + r)), .ref (g.ad (20)), .int (nI (a)), .int (nI (b)), .int (nI (0))] S (fun v S' => ∃ f' c', v = none ∧ S' = yq (yz S r f') c' ∧ (zs f' a (b - a)).Perm (zs (ye S r) a (b - a)) ∧ (∀ j, j < a ∨ b ≤ j → f' j = (ye S r) j) ∧ zo (zq od tg) (zs f' a (b - a)) ∧ c' ≤ c + (b - a) * (2 * 0 + 3 * le + 4)) := by
  refine yC_of (by decide) (Nat.le_of_ble_eq_true rfl) ?_
  intro o hl hg hB0 hE
  subst hl
  subst hg
  have hB : yB o mb_P_arrange "OrderBench$Parting" := hB0
  have hm := hE.1
  show yW o (S) 0 [(0, .ref (o.G.ad (2 + r))), (1, .ref (o.G.ad (20))), (2, .int (nI (a))), (3, .int (nI (b))), (4, .int (nI (0)))] []
  refine y_iload_n (pc' := 1) hB dc_P_arrange_0 rfl rfl 3 rfl ?_
  refine y_iload_n (pc' := 2) hB dc_P_arrange_1 rfl rfl 2 rfl ?_
  refine n_isub (x := b) (y := a) (pc' := 3) hB dc_P_arrange_2 rfl (by omega) ?_
  refine y_bipush (v := nI 16) (pc' := 5) hB dc_P_arrange_3 rfl (by decide) ?_
  refine n_icmp_gt (pc' := 8) (tg := 19) hB dc_P_arrange_5 rfl rfl (by omega) (by omega) (fun hf => ?_) (fun hf => ?_)
  · refine y_iload (pc' := 21) hB dc_P_arrange_19 rfl 4 rfl ?_
    refine n_if_gt (pc' := 24) (tg := 34) hB dc_P_arrange_21 rfl rfl (by omega) (fun hz => ?_) (fun hz => ?_)
    · omega
    · refine y_aload_n (pc' := 25) hB dc_P_arrange_24 rfl rfl 0 rfl ?_
      refine y_aload_n (pc' := 26) hB dc_P_arrange_25 rfl rfl 1 rfl ?_
      refine y_iload_n (pc' := 27) hB dc_P_arrange_26 rfl rfl 2 rfl ?_
      refine y_iload_n (pc' := 28) hB dc_P_arrange_27 rfl rfl 3 rfl ?_
      refine y_callS (As := [.ref (o.G.ad (2 + r)), .ref (o.G.ad (20)), .int (nI (a)), .int (nI (b))]) (rest := []) (pc' := 31) hB hE (by have hz := ct_H_arrange o.l o.G S od tg c hJ r hr a (b - a) (by omega) le hle; rwa [show a + (b - a) = b by omega] at hz) mm_H_arrange q_419 q_399 dc_P_arrange_28 rfl (by decide) rfl rfl (Nat.le_of_ble_eq_true rfl) (fun v S' hpost => ?_)
      obtain ⟨f3, c3, rfl, rfl, m1, m2, m3, m4a, m4⟩ := hpost
      show yW o (yq (yz S r f3) c3) 31 [(0, .ref (o.G.ad (2 + r))), (1, .ref (o.G.ad (20))), (2, .int (nI (a))), (3, .int (nI (b))), (4, .int (nI (0)))] []
      refine y_goto (tg := 90) hB dc_P_arrange_31 rfl ?_
      refine y_vret hB hE dc_P_arrange_90 ⟨f3, c3, rfl, rfl, m1, m2, m3, ?_⟩
      have e1 : 2 * le * ((b - a) / 2 + (b - a)) ≤ (b - a) * (2 * 0 + 3 * le + 4) := by
        have e2 : 2 * le * ((b - a) / 2 + (b - a)) = le * (2 * ((b - a) / 2 + (b - a))) := by rw [Nat.mul_comm 2 le, Nat.mul_assoc]
        have e3 : le * (2 * ((b - a) / 2 + (b - a))) ≤ le * (3 * (b - a)) := Nat.mul_le_mul_left _ (by omega)
        have e4 : le * (3 * (b - a)) = (b - a) * (3 * le) := by rw [Nat.mul_comm 3 (b - a), ← Nat.mul_assoc, Nat.mul_comm le, Nat.mul_assoc, Nat.mul_comm le 3]
        have e5 : (b - a) * (3 * le) ≤ (b - a) * (2 * 0 + 3 * le + 4) := Nat.mul_le_mul_left _ (by omega)
        omega
      omega
  · refine y_aload_n (pc' := 9) hB dc_P_arrange_8 rfl rfl 0 rfl ?_
    refine y_aload_n (pc' := 10) hB dc_P_arrange_9 rfl rfl 1 rfl ?_
    refine y_iload_n (pc' := 11) hB dc_P_arrange_10 rfl rfl 2 rfl ?_
    refine y_iload_n (pc' := 12) hB dc_P_arrange_11 rfl rfl 2 rfl ?_
    refine y_iload_n (pc' := 13) hB dc_P_arrange_12 rfl rfl 3 rfl ?_
    refine y_callS (As := [.ref (o.G.ad (2 + r)), .ref (o.G.ad (20)), .int (nI (a)), .int (nI (a)), .int (nI (b))]) (rest := []) (pc' := 16) hB hE (ct_In_arrange o.l o.G S od tg c hJ r hr a a b (Nat.le_refl _) (by omega) hb (by rw [Nat.sub_self]; exact zo_zs.mpr (fun i j q1 q2 => by omega)) (fun _ => 4) (fun i q1 q2 => by omega)) mm_In_arrange q_418 q_369 dc_P_arrange_13 rfl (by omega) rfl rfl (Nat.le_of_ble_eq_true rfl) (fun v S' hpost => ?_)
    obtain ⟨f3, c3, rfl, rfl, m1, m2, m3, m4⟩ := hpost
    rw [show max a b = b by omega] at m1 m2 m3
    show yW o (yq (yz S r f3) c3) 16 [(0, .ref (o.G.ad (2 + r))), (1, .ref (o.G.ad (20))), (2, .int (nI (a))), (3, .int (nI (b))), (4, .int (nI (0)))] []
    refine y_goto (tg := 90) hB dc_P_arrange_16 rfl ?_
    rw [zsm_4] at m4
    refine y_vret hB hE dc_P_arrange_90 ⟨f3, c3, rfl, rfl, m3.to_perm, m1, m2, ?_⟩
    have e1 : 4 * (b - a) ≤ (b - a) * (2 * 0 + 3 * le + 4) := by rw [Nat.mul_comm]; exact Nat.mul_le_mul_left _ (by omega)
    omega
set_option maxHeartbeats 4000000 in
set_option maxRecDepth 100000 in
theorem ct_P_arrangeS (l : Launch) (g : YG) (S : YS) (od : Nat) (tg : Bool) (c : Nat) (hJ : yJ S od tg c) (r : Nat) (hr : r < 6) (a b : Nat) (hab : a ≤ b) (hb : b ≤ 1024) (le : Nat) (hle : b - a ≤ 2 ^ le) (k : Nat) (hk : k < 64) (ihk : ∀ (S : YS) (c : Nat) (hJ : yJ S od tg c) (a b : Nat) (hab : a ≤ b) (hb : b ≤ 1024) (hle : b - a ≤ 2 ^ le), yC l mn_P_arrange mb_P_arrange 6 none (6 + k) g [.ref (g.ad (2 + r)), .ref (g.ad (20)), .int (nI (a)), .int (nI (b)), .int (nI (k))] S (fun v S' => ∃ f' c', v = none ∧ S' = yq (yz S r f') c' ∧ (zs f' a (b - a)).Perm (zs (ye S r) a (b - a)) ∧ (∀ j, j < a ∨ b ≤ j → f' j = (ye S r) j) ∧ zo (zq od tg) (zs f' a (b - a)) ∧ c' ≤ c + (b - a) * (2 * k + 3 * le + 4))) : yC l mn_P_arrange mb_P_arrange 6 none (6 + (k + 1)) g [.ref (g.ad (2 + r)), .ref (g.ad (20)), .int (nI (a)), .int (nI (b)), .int (nI (k + 1))] S (fun v S' => ∃ f' c', v = none ∧ S' = yq (yz S r f') c' ∧ (zs f' a (b - a)).Perm (zs (ye S r) a (b - a)) ∧ (∀ j, j < a ∨ b ≤ j → f' j = (ye S r) j) ∧ zo (zq od tg) (zs f' a (b - a)) ∧ c' ≤ c + (b - a) * (2 * (k + 1) + 3 * le + 4)) := by
  refine yC_of (by decide) (Nat.le_of_ble_eq_true rfl) ?_
  intro o hl hg hB0 hE
  subst hl
  subst hg
  have hB : yB o mb_P_arrange "OrderBench$Parting" := hB0
  have hm := hE.1
  show yW o (S) 0 [(0, .ref (o.G.ad (2 + r))), (1, .ref (o.G.ad (20))), (2, .int (nI (a))), (3, .int (nI (b))), (4, .int (nI (k + 1)))] []
  refine y_iload_n (pc' := 1) hB dc_P_arrange_0 rfl rfl 3 rfl ?_
  refine y_iload_n (pc' := 2) hB dc_P_arrange_1 rfl rfl 2 rfl ?_
  refine n_isub (x := b) (y := a) (pc' := 3) hB dc_P_arrange_2 rfl (by omega) ?_
  refine y_bipush (v := nI 16) (pc' := 5) hB dc_P_arrange_3 rfl (by decide) ?_
  refine n_icmp_gt (pc' := 8) (tg := 19) hB dc_P_arrange_5 rfl rfl (by omega) (by omega) (fun hf => ?_) (fun hf => ?_)
  · refine y_iload (pc' := 21) hB dc_P_arrange_19 rfl 4 rfl ?_
    refine n_if_gt (pc' := 24) (tg := 34) hB dc_P_arrange_21 rfl rfl (by omega) (fun hz => ?_) (fun hz => ?_)
    · refine y_aload_n (pc' := 35) hB dc_P_arrange_34 rfl rfl 0 rfl ?_
      refine y_iload_n (pc' := 36) hB dc_P_arrange_35 rfl rfl 2 rfl ?_
      refine y_aload_n (pc' := 37) hB dc_P_arrange_36 rfl rfl 0 rfl ?_
      refine y_aload_n (pc' := 38) hB dc_P_arrange_37 rfl rfl 1 rfl ?_
      refine y_iload_n (pc' := 39) hB dc_P_arrange_38 rfl rfl 2 rfl ?_
      refine y_iload_n (pc' := 40) hB dc_P_arrange_39 rfl rfl 2 rfl ?_
      refine y_iload_n (pc' := 41) hB dc_P_arrange_40 rfl rfl 3 rfl ?_
      refine y_iload_n (pc' := 42) hB dc_P_arrange_41 rfl rfl 2 rfl ?_
      refine n_isub (x := b) (y := a) (pc' := 43) hB dc_P_arrange_42 rfl (by omega) ?_
      refine y_iconst (v := nI 2) (pc' := 44) hB dc_P_arrange_43 rfl rfl ?_
      refine n_idiv (x := b - a) (y := 2) (pc' := 45) hB dc_P_arrange_44 rfl (by omega) (by omega) (by omega) ?_
      refine n_iadd (x := a) (y := (b - a) / 2) (pc' := 46) hB dc_P_arrange_45 rfl ?_
      refine y_iload_n (pc' := 47) hB dc_P_arrange_46 rfl rfl 3 rfl ?_
      refine y_iconst (v := nI 1) (pc' := 48) hB dc_P_arrange_47 rfl rfl ?_
      refine n_isub (x := b) (y := 1) (pc' := 49) hB dc_P_arrange_48 rfl (by omega) ?_
      refine y_callS (As := [.ref (o.G.ad (2 + r)), .ref (o.G.ad (20)), .int (nI (a)), .int (nI (a + ((b - a) / 2))), .int (nI (b - 1))]) (rest := [.int (nI (a)), .ref (o.G.ad (2 + r))]) (pc' := 52) hB hE (ct_P_middleOfThree o.l o.G S od tg c hJ r hr a (a + (b - a) / 2) (b - 1) (by omega) (by omega) (by omega)) mm_P_middleOfThree q_420 q_421 dc_P_arrange_49 rfl (by omega) rfl rfl (Nat.le_of_ble_eq_true rfl) (fun v S' hpost => ?_)
      obtain ⟨m, c3, rfl, rfl, m1, m2, m3⟩ := hpost
      show yW o (yq S c3) 52 [(0, .ref (o.G.ad (2 + r))), (1, .ref (o.G.ad (20))), (2, .int (nI (a))), (3, .int (nI (b))), (4, .int (nI (k + 1)))] [.int (nI (m)), .int (nI (a)), .ref (o.G.ad (2 + r))]
      have hm2 : a ≤ m ∧ m < b := by omega
      refine y_callV (c := 2 + r) (ci := 1) (As := [.int (nI (a)), .int (nI (m))]) (rest := []) (pc' := 55) hB hE (ct_R_change o.l o.G (yq S c3) r hr a m (by omega) (by omega)) mm_R_change q_424 q_288 q_289 (by unfold yN; omega) (yk_row (by omega)).1 rfl dc_P_arrange_52 rfl (by omega) rfl rfl (Nat.le_of_ble_eq_true rfl) (fun v S' hpost => ?_)
      obtain ⟨rfl, hSS⟩ := hpost
      rw [hSS]
      clear hSS S'
      show yW o (yz (yq S c3) r (zw (ye (yq S c3) r) a m)) 55 [(0, .ref (o.G.ad (2 + r))), (1, .ref (o.G.ad (20))), (2, .int (nI (a))), (3, .int (nI (b))), (4, .int (nI (k + 1)))] []
      rw [ye_yq, show yz (yq S c3) r (zw (ye S r) a m) = yq (yz S r (zw (ye S r) a m)) c3 from rfl]
      refine y_aload_n (pc' := 56) hB dc_P_arrange_55 rfl rfl 0 rfl ?_
      refine y_aload_n (pc' := 57) hB dc_P_arrange_56 rfl rfl 1 rfl ?_
      refine y_iload_n (pc' := 58) hB dc_P_arrange_57 rfl rfl 2 rfl ?_
      refine y_iload_n (pc' := 59) hB dc_P_arrange_58 rfl rfl 3 rfl ?_
      refine y_callS (As := [.ref (o.G.ad (2 + r)), .ref (o.G.ad (20)), .int (nI (a)), .int (nI (b))]) (rest := []) (pc' := 62) hB hE (ct_P_part o.l o.G (yq (yz S r (zw (ye S r) a m)) c3) od tg c3 (yJ_yq (yJ_yz hJ r _) c3) r hr a b (by omega) hb) mm_P_part q_425 q_426 dc_P_arrange_59 rfl (by omega) rfl rfl (Nat.le_of_ble_eq_true rfl) (fun v S' hpost => ?_)
      obtain ⟨h, f4, c4, rfl, rfl, n0, n1, n2, n3, n4, n5, n6⟩ := hpost
      rw [ye_yq, ye_yz] at n1 n2
      rw [yqz]
      show yW o (yq (yz S r f4) c4) 62 [(0, .ref (o.G.ad (2 + r))), (1, .ref (o.G.ad (20))), (2, .int (nI (a))), (3, .int (nI (b))), (4, .int (nI (k + 1)))] [.int (nI (h))]
      refine y_istore (pc' := 64) (lv' := [(5, .int (nI (h))), (0, .ref (o.G.ad (2 + r))), (1, .ref (o.G.ad (20))), (2, .int (nI (a))), (3, .int (nI (b))), (4, .int (nI (k + 1)))]) hB hm dc_P_arrange_62 rfl (by decide) rfl ?_
      refine y_aload_n (pc' := 65) hB dc_P_arrange_64 rfl rfl 1 rfl ?_
      refine y_aload_n (pc' := 66) hB dc_P_arrange_65 rfl rfl 2 rfl ?_
      refine y_iload_n (pc' := 67) hB dc_P_arrange_66 rfl rfl 3 rfl ?_
      refine y_iload (pc' := 69) hB dc_P_arrange_67 rfl 0 rfl ?_
      refine y_iload (pc' := 71) hB dc_P_arrange_69 rfl 5 rfl ?_
      refine y_iconst (v := nI 1) (pc' := 72) hB dc_P_arrange_71 rfl rfl ?_
      refine n_isub (x := k + 1) (y := 1) (pc' := 73) hB dc_P_arrange_72 rfl (by omega) ?_
      rw [Nat.add_sub_cancel]
      refine y_callS (As := [.ref (o.G.ad (2 + r)), .ref (o.G.ad (20)), .int (nI (a)), .int (nI (h)), .int (nI (k))]) (rest := []) (pc' := 76) hB hE (ihk (yq (yz S r f4) c4) c4 (yJ_yq (yJ_yz hJ r _) c4) a h n0.1 (by omega) (by omega)) mm_P_arrange q_428 q_416 dc_P_arrange_73 rfl (by omega) rfl rfl (Nat.le_of_ble_eq_true rfl) (fun v S' hpost => ?_)
      obtain ⟨f5, c5, rfl, rfl, p1, p2, p3, p5⟩ := hpost
      rw [ye_yq, ye_yz] at p1 p2
      rw [yqz]
      show yW o (yq (yz S r f5) c5) 76 [(5, .int (nI (h))), (0, .ref (o.G.ad (2 + r))), (1, .ref (o.G.ad (20))), (2, .int (nI (a))), (3, .int (nI (b))), (4, .int (nI (k + 1)))] []
      refine y_aload_n (pc' := 77) hB dc_P_arrange_76 rfl rfl 1 rfl ?_
      refine y_aload_n (pc' := 78) hB dc_P_arrange_77 rfl rfl 2 rfl ?_
      refine y_iload (pc' := 80) hB dc_P_arrange_78 rfl 0 rfl ?_
      refine y_iconst (v := nI 1) (pc' := 81) hB dc_P_arrange_80 rfl rfl ?_
      refine n_iadd (x := h) (y := 1) (pc' := 82) hB dc_P_arrange_81 rfl ?_
      refine y_iload_n (pc' := 83) hB dc_P_arrange_82 rfl rfl 4 rfl ?_
      refine y_iload (pc' := 85) hB dc_P_arrange_83 rfl 5 rfl ?_
      refine y_iconst (v := nI 1) (pc' := 86) hB dc_P_arrange_85 rfl rfl ?_
      refine n_isub (x := k + 1) (y := 1) (pc' := 87) hB dc_P_arrange_86 rfl (by omega) ?_
      rw [Nat.add_sub_cancel]
      refine y_callS (As := [.ref (o.G.ad (2 + r)), .ref (o.G.ad (20)), .int (nI (h + 1)), .int (nI (b)), .int (nI (k))]) (rest := []) (pc' := 90) hB hE (ihk (yq (yz S r f5) c5) c5 (yJ_yq (yJ_yz hJ r _) c5) (h + 1) b (by omega) hb (by omega)) mm_P_arrange q_428 q_416 dc_P_arrange_87 rfl (by omega) rfl rfl (Nat.le_of_ble_eq_true rfl) (fun v S' hpost => ?_)
      obtain ⟨f6, c6, rfl, rfl, s1, s2, s3, s5⟩ := hpost
      rw [ye_yq, ye_yz] at s1 s2
      rw [yqz]
      show yW o (yq (yz S r f6) c6) 90 [(5, .int (nI (h))), (0, .ref (o.G.ad (2 + r))), (1, .ref (o.G.ad (20))), (2, .int (nI (a))), (3, .int (nI (b))), (4, .int (nI (k + 1)))] []
      obtain ⟨u1, u2, u3⟩ := zP_both n0.1 n0.2 n3 n4 p1 p2 p3 s1 s2 s3
      refine y_vret hB hE dc_P_arrange_90 ⟨f6, c6, rfl, rfl, u1.trans (n1.trans (zw_perm _ (by omega) (by omega) (by omega) (by omega))), fun j q => ?_, u3, ?_⟩
      · rw [u2 j q, n2 j q]
        exact zw_o _ (by omega) (by omega)
      · have e1 : (b - a) * (2 * (k + 1) + 3 * le + 4) = (h - a) * (2 * k + 3 * le + 4) + (b - (h + 1)) * (2 * k + 3 * le + 4) + (2 * k + 3 * le + 4) + (b - a) * 2 := by
          rw [show 2 * (k + 1) + 3 * le + 4 = (2 * k + 3 * le + 4) + 2 by omega, Nat.mul_add, show b - a = (h - a) + (b - (h + 1)) + 1 by omega, Nat.add_mul ((h - a) + (b - (h + 1))), Nat.add_mul (h - a), Nat.one_mul]
        omega
    · omega
  · refine y_aload_n (pc' := 9) hB dc_P_arrange_8 rfl rfl 0 rfl ?_
    refine y_aload_n (pc' := 10) hB dc_P_arrange_9 rfl rfl 1 rfl ?_
    refine y_iload_n (pc' := 11) hB dc_P_arrange_10 rfl rfl 2 rfl ?_
    refine y_iload_n (pc' := 12) hB dc_P_arrange_11 rfl rfl 2 rfl ?_
    refine y_iload_n (pc' := 13) hB dc_P_arrange_12 rfl rfl 3 rfl ?_
    refine y_callS (As := [.ref (o.G.ad (2 + r)), .ref (o.G.ad (20)), .int (nI (a)), .int (nI (a)), .int (nI (b))]) (rest := []) (pc' := 16) hB hE (ct_In_arrange o.l o.G S od tg c hJ r hr a a b (Nat.le_refl _) (by omega) hb (by rw [Nat.sub_self]; exact zo_zs.mpr (fun i j q1 q2 => by omega)) (fun _ => 4) (fun i q1 q2 => by omega)) mm_In_arrange q_418 q_369 dc_P_arrange_13 rfl (by omega) rfl rfl (Nat.le_of_ble_eq_true rfl) (fun v S' hpost => ?_)
    obtain ⟨f3, c3, rfl, rfl, m1, m2, m3, m4⟩ := hpost
    rw [show max a b = b by omega] at m1 m2 m3
    show yW o (yq (yz S r f3) c3) 16 [(0, .ref (o.G.ad (2 + r))), (1, .ref (o.G.ad (20))), (2, .int (nI (a))), (3, .int (nI (b))), (4, .int (nI (k + 1)))] []
    refine y_goto (tg := 90) hB dc_P_arrange_16 rfl ?_
    rw [zsm_4] at m4
    refine y_vret hB hE dc_P_arrange_90 ⟨f3, c3, rfl, rfl, m3.to_perm, m1, m2, ?_⟩
    have e1 : 4 * (b - a) ≤ (b - a) * (2 * (k + 1) + 3 * le + 4) := by rw [Nat.mul_comm]; exact Nat.mul_le_mul_left _ (by omega)
    omega
theorem ct_P_arrange (l : Launch) (g : YG) (od : Nat) (tg : Bool) (r : Nat) (hr : r < 6) (le : Nat) : ∀ (k : Nat) (hk : k < 64) (S : YS) (c : Nat) (hJ : yJ S od tg c) (a b : Nat) (hab : a ≤ b) (hb : b ≤ 1024) (hle : b - a ≤ 2 ^ le), yC l mn_P_arrange mb_P_arrange 6 none (6 + k) g [.ref (g.ad (2 + r)), .ref (g.ad (20)), .int (nI (a)), .int (nI (b)), .int (nI (k))] S (fun v S' => ∃ f' c', v = none ∧ S' = yq (yz S r f') c' ∧ (zs f' a (b - a)).Perm (zs (ye S r) a (b - a)) ∧ (∀ j, j < a ∨ b ≤ j → f' j = (ye S r) j) ∧ zo (zq od tg) (zs f' a (b - a)) ∧ c' ≤ c + (b - a) * (2 * k + 3 * le + 4)) := by
  intro k
  induction k with
  | zero => exact fun hk S c hJ a b hab hb hle => ct_P_arrange0 l g S od tg c hJ r hr a b hab hb le hle
  | succ k ih => exact fun hk S c hJ a b hab hb hle => ct_P_arrangeS l g S od tg c hJ r hr a b hab hb le hle k (by omega) (ih (by omega))
