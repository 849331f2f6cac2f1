/-! PILE: arrange -/
theorem dc_Pi_arrange_0 : decode mb_Pi_arrange 0 = .ok (.aload_n 1, 1) := by decide +kernel
theorem dc_Pi_arrange_1 : decode mb_Pi_arrange 1 = .ok (.getfield 27, 3) := by decide +kernel
theorem dc_Pi_arrange_4 : decode mb_Pi_arrange 4 = .ok (.invokestatic 32, 3) := by decide +kernel
theorem dc_Pi_arrange_7 : decode mb_Pi_arrange 7 = .ok (.istore_n 2, 1) := by decide +kernel
theorem dc_Pi_arrange_8 : decode mb_Pi_arrange 8 = .ok (.iconst 0, 1) := by decide +kernel
theorem dc_Pi_arrange_9 : decode mb_Pi_arrange 9 = .ok (.istore_n 3, 1) := by decide +kernel
theorem dc_Pi_arrange_10 : decode mb_Pi_arrange 10 = .ok (.aload_n 0, 1) := by decide +kernel
theorem dc_Pi_arrange_11 : decode mb_Pi_arrange 11 = .ok (.iconst 0, 1) := by decide +kernel
theorem dc_Pi_arrange_12 : decode mb_Pi_arrange 12 = .ok (.putfield 23, 3) := by decide +kernel
theorem dc_Pi_arrange_15 : decode mb_Pi_arrange 15 = .ok (.iconst 0, 1) := by decide +kernel
theorem dc_Pi_arrange_16 : decode mb_Pi_arrange 16 = .ok (.istore 4, 2) := by decide +kernel
theorem dc_Pi_arrange_18 : decode mb_Pi_arrange 18 = .ok (.iload 4, 2) := by decide +kernel
theorem dc_Pi_arrange_20 : decode mb_Pi_arrange 20 = .ok (.bipush 65, 2) := by decide +kernel
theorem dc_Pi_arrange_22 : decode mb_Pi_arrange 22 = .ok (.if_icmp .ge 90, 3) := by decide +kernel
theorem dc_Pi_arrange_25 : decode mb_Pi_arrange 25 = .ok (.iload_n 3, 1) := by decide +kernel
theorem dc_Pi_arrange_26 : decode mb_Pi_arrange 26 = .ok (.aload_n 1, 1) := by decide +kernel
theorem dc_Pi_arrange_27 : decode mb_Pi_arrange 27 = .ok (.getfield 27, 3) := by decide +kernel
theorem dc_Pi_arrange_30 : decode mb_Pi_arrange 30 = .ok (.if_icmp .ge 82, 3) := by decide +kernel
theorem dc_Pi_arrange_33 : decode mb_Pi_arrange 33 = .ok (.aload_n 0, 1) := by decide +kernel
theorem dc_Pi_arrange_34 : decode mb_Pi_arrange 34 = .ok (.aload_n 1, 1) := by decide +kernel
theorem dc_Pi_arrange_35 : decode mb_Pi_arrange 35 = .ok (.iload_n 3, 1) := by decide +kernel
theorem dc_Pi_arrange_36 : decode mb_Pi_arrange 36 = .ok (.iload_n 2, 1) := by decide +kernel
theorem dc_Pi_arrange_37 : decode mb_Pi_arrange 37 = .ok (.invokevirtual 36, 3) := by decide +kernel
theorem dc_Pi_arrange_40 : decode mb_Pi_arrange 40 = .ok (.istore_n 3, 1) := by decide +kernel
theorem dc_Pi_arrange_41 : decode mb_Pi_arrange 41 = .ok (.aload_n 0, 1) := by decide +kernel
theorem dc_Pi_arrange_42 : decode mb_Pi_arrange 42 = .ok (.dup, 1) := by decide +kernel
theorem dc_Pi_arrange_43 : decode mb_Pi_arrange 43 = .ok (.getfield 23, 3) := by decide +kernel
theorem dc_Pi_arrange_46 : decode mb_Pi_arrange 46 = .ok (.iconst 1, 1) := by decide +kernel
theorem dc_Pi_arrange_47 : decode mb_Pi_arrange 47 = .ok (.iadd, 1) := by decide +kernel
theorem dc_Pi_arrange_48 : decode mb_Pi_arrange 48 = .ok (.putfield 23, 3) := by decide +kernel
theorem dc_Pi_arrange_51 : decode mb_Pi_arrange 51 = .ok (.aload_n 0, 1) := by decide +kernel
theorem dc_Pi_arrange_52 : decode mb_Pi_arrange 52 = .ok (.getfield 19, 3) := by decide +kernel
theorem dc_Pi_arrange_55 : decode mb_Pi_arrange 55 = .ok (.aload_n 0, 1) := by decide +kernel
theorem dc_Pi_arrange_56 : decode mb_Pi_arrange 56 = .ok (.getfield 23, 3) := by decide +kernel
theorem dc_Pi_arrange_59 : decode mb_Pi_arrange 59 = .ok (.iload_n 3, 1) := by decide +kernel
theorem dc_Pi_arrange_60 : decode mb_Pi_arrange 60 = .ok (.iastore, 1) := by decide +kernel
theorem dc_Pi_arrange_61 : decode mb_Pi_arrange 61 = .ok (.aload_n 0, 1) := by decide +kernel
theorem dc_Pi_arrange_62 : decode mb_Pi_arrange 62 = .ok (.invokevirtual 40, 3) := by decide +kernel
theorem dc_Pi_arrange_65 : decode mb_Pi_arrange 65 = .ok (.istore 5, 2) := by decide +kernel
theorem dc_Pi_arrange_67 : decode mb_Pi_arrange 67 = .ok (.iload 5, 2) := by decide +kernel
theorem dc_Pi_arrange_69 : decode mb_Pi_arrange 69 = .ok (.ifCond .lt 37, 3) := by decide +kernel
theorem dc_Pi_arrange_72 : decode mb_Pi_arrange 72 = .ok (.aload_n 0, 1) := by decide +kernel
theorem dc_Pi_arrange_73 : decode mb_Pi_arrange 73 = .ok (.getfield 23, 3) := by decide +kernel
theorem dc_Pi_arrange_76 : decode mb_Pi_arrange 76 = .ok (.iconst 1, 1) := by decide +kernel
theorem dc_Pi_arrange_77 : decode mb_Pi_arrange 77 = .ok (.if_icmp .le 29, 3) := by decide +kernel
theorem dc_Pi_arrange_80 : decode mb_Pi_arrange 80 = .ok (.aload_n 0, 1) := by decide +kernel
theorem dc_Pi_arrange_81 : decode mb_Pi_arrange 81 = .ok (.aload_n 1, 1) := by decide +kernel
theorem dc_Pi_arrange_82 : decode mb_Pi_arrange 82 = .ok (.iload 5, 2) := by decide +kernel
theorem dc_Pi_arrange_84 : decode mb_Pi_arrange 84 = .ok (.invokevirtual 44, 3) := by decide +kernel
theorem dc_Pi_arrange_87 : decode mb_Pi_arrange 87 = .ok (.aload_n 0, 1) := by decide +kernel
theorem dc_Pi_arrange_88 : decode mb_Pi_arrange 88 = .ok (.dup, 1) := by decide +kernel
theorem dc_Pi_arrange_89 : decode mb_Pi_arrange 89 = .ok (.getfield 23, 3) := by decide +kernel
theorem dc_Pi_arrange_92 : decode mb_Pi_arrange 92 = .ok (.iconst 1, 1) := by decide +kernel
theorem dc_Pi_arrange_93 : decode mb_Pi_arrange 93 = .ok (.isub, 1) := by decide +kernel
theorem dc_Pi_arrange_94 : decode mb_Pi_arrange 94 = .ok (.putfield 23, 3) := by decide +kernel
theorem dc_Pi_arrange_97 : decode mb_Pi_arrange 97 = .ok (.aload_n 0, 1) := by decide +kernel
theorem dc_Pi_arrange_98 : decode mb_Pi_arrange 98 = .ok (.invokevirtual 40, 3) := by decide +kernel
theorem dc_Pi_arrange_101 : decode mb_Pi_arrange 101 = .ok (.istore 5, 2) := by decide +kernel
theorem dc_Pi_arrange_103 : decode mb_Pi_arrange 103 = .ok (.goto (-36), 3) := by decide +kernel
theorem dc_Pi_arrange_106 : decode mb_Pi_arrange 106 = .ok (.iinc 4 1, 3) := by decide +kernel
theorem dc_Pi_arrange_109 : decode mb_Pi_arrange 109 = .ok (.goto (-91), 3) := by decide +kernel
theorem dc_Pi_arrange_112 : decode mb_Pi_arrange 112 = .ok (.aload_n 0, 1) := by decide +kernel
theorem dc_Pi_arrange_113 : decode mb_Pi_arrange 113 = .ok (.getfield 23, 3) := by decide +kernel
theorem dc_Pi_arrange_116 : decode mb_Pi_arrange 116 = .ok (.iconst 1, 1) := by decide +kernel
theorem dc_Pi_arrange_117 : decode mb_Pi_arrange 117 = .ok (.if_icmp .le 25, 3) := by decide +kernel
theorem dc_Pi_arrange_120 : decode mb_Pi_arrange 120 = .ok (.aload_n 0, 1) := by decide +kernel
theorem dc_Pi_arrange_121 : decode mb_Pi_arrange 121 = .ok (.aload_n 1, 1) := by decide +kernel
theorem dc_Pi_arrange_122 : decode mb_Pi_arrange 122 = .ok (.aload_n 0, 1) := by decide +kernel
theorem dc_Pi_arrange_123 : decode mb_Pi_arrange 123 = .ok (.invokevirtual 48, 3) := by decide +kernel
theorem dc_Pi_arrange_126 : decode mb_Pi_arrange 126 = .ok (.invokevirtual 44, 3) := by decide +kernel
theorem dc_Pi_arrange_129 : decode mb_Pi_arrange 129 = .ok (.aload_n 0, 1) := by decide +kernel
theorem dc_Pi_arrange_130 : decode mb_Pi_arrange 130 = .ok (.dup, 1) := by decide +kernel
theorem dc_Pi_arrange_131 : decode mb_Pi_arrange 131 = .ok (.getfield 23, 3) := by decide +kernel
theorem dc_Pi_arrange_134 : decode mb_Pi_arrange 134 = .ok (.iconst 1, 1) := by decide +kernel
theorem dc_Pi_arrange_135 : decode mb_Pi_arrange 135 = .ok (.isub, 1) := by decide +kernel
theorem dc_Pi_arrange_136 : decode mb_Pi_arrange 136 = .ok (.putfield 23, 3) := by decide +kernel
theorem dc_Pi_arrange_139 : decode mb_Pi_arrange 139 = .ok (.goto (-27), 3) := by decide +kernel
theorem dc_Pi_arrange_142 : decode mb_Pi_arrange 142 = .ok (.return_, 1) := by decide +kernel
/-- the state while the pile is at work -/
def yPi (S : YS) (B : Nat → Int32) (h : Nat) (A : Nat → Int64 × Int32) (r : Nat) (f : Nat → Int64 × Int32) (c : Nat) : YS := yq (yz (yz (sF (sI S 22 B) 21 3 (nI h)) 5 A) r f) c
theorem yJ_sF21 {S : YS} {od c : Nat} {tg : Bool} (h : yJ S od tg c) (v : Int32) : yJ (sF S 21 3 v) od tg c := by
  obtain ⟨h1, h2, h3, h4⟩ := h
  refine ⟨h1, ?_, ?_, ?_⟩
  · rw [gF_sF, if_neg (by decide)]; exact h2
  · rw [gF_sF, if_neg (by decide)]; exact h3
  · rw [gF_sF, if_neg (by decide)]; exact h4
theorem yPi_0 {S : YS} {od c : Nat} {tg : Bool} (h : yJ S od tg c) (r : Nat) : yPi S (gI S 22) 0 (ye S 5) r (ye S r) c = sF S 21 3 (nI 0) := by
  unfold yPi
  rw [sI_self, show yz (sF S 21 3 (nI 0)) 5 (ye S 5) = sF S 21 3 (nI 0) from yz_self (sF S 21 3 (nI 0)) 5, show yz (sF S 21 3 (nI 0)) r (ye S r) = sF S 21 3 (nI 0) from yz_self (sF S 21 3 (nI 0)) r]
  exact yq_self (yJ_sF21 h _)
section YPI
variable {S : YS} {B B' : Nat → Int32} {h h' r : Nat} {A A' f f' : Nat → Int64 × Int32} {c c' : Nat}
theorem yPi_J {od c0 : Nat} {tg : Bool} (hJ : yJ S od tg c0) : yJ (yPi S B h A r f c) od tg c := yJ_yq (yJ_yz (yJ_yz (yJ_sF21 (S := sI S 22 B) hJ (nI h)) 5 A) r f) c
theorem yPi_ye : ye (yPi S B h A r f c) r = f := ye_yz _ r f
theorem yPi_B (hr : r < 6) : gI (yPi S B h A r f c) 22 = B := by
  show gI (yz (yz (sF (sI S 22 B) 21 3 (nI h)) 5 A) r f) 22 = B
  rw [gI_yz _ (by omega), gI_yz _ (by decide)]
  exact gI_same S 22 B
theorem yPi_h : gF (yPi S B h A r f c) 21 3 = nI h := by
  unfold yPi
  rw [gF_yq21, gF_yz, gF_yz, gF_sF, if_pos (by decide)]
theorem yPi_n (hr : r < 6) : gF (yPi S B h A r f c) (2 + r) 2 = gF S (2 + r) 2 := by
  unfold yPi
  rw [gF_yq _ _ _ hr, gF_yz, gF_yz, gF_sF, if_neg (by omega)]
  rfl
theorem yPi_put : sF (yPi S B h A r f c) 21 3 (nI h') = yPi S B h' A r f c := by
  refine YS_ext (fun c => rfl) (fun c => rfl) (fun k1 k2 => ?_)
  unfold yPi yq
  rw [gF_sF, gF_sF, gF_sF, gF_yz, gF_yz, gF_yz, gF_yz, gF_sF, gF_sF]
  by_cases h1 : k1 = 21 ∧ k2 = 3
  · rw [if_pos h1, if_neg (by omega), if_pos h1]
  · rw [if_neg h1, if_neg h1, if_neg h1]
theorem yPi_sI (hr : r < 6) : sI (yPi S B h A r f c) 22 B' = yPi S B' h A r f c := by
  show yq (sI (yz (yz (sF (sI S 22 B) 21 3 (nI h)) 5 A) r f) 22 B') c = _
  rw [sI_yz _ (by omega), sI_yz _ (by decide), show sI (sF (sI S 22 B) 21 3 (nI h)) 22 B' = sF (sI (sI S 22 B) 22 B') 21 3 (nI h) from rfl, sI_sI]
  rfl
theorem yPi_run : yq (yz (yPi S B h A r f c) r f') c' = yPi S B h A r f' c' := yqz _ r c c' f f'
theorem yPi_join (hr : r < 6) (hr5 : 5 ≠ r) : yq (yz (yz (sI (yPi S B h A r f c) 22 B') 5 A') r f') c' = yPi S B' h A' r f' c' := by
  rw [yPi_sI hr]
  unfold yPi
  show yq (yq (yz (yz (yz (yz (sF (sI S 22 B') 21 3 (nI h)) 5 A) r f) 5 A') r f') c) c' = _
  rw [yq_yq, yz_comm _ f A' (fun z => hr5 z.symm), yz_yz, yz_yz]
end YPI
/-- the pile: runs in order, one behind the other -/
def zPi {α : Type} (r : α → Int) (F f : Nat → α) (bd : Nat → Nat) (n h fr : Nat) : Prop :=
  (bd 0 = 0 ∧ bd h = fr ∧ fr ≤ n) ∧ (∀ i, i < h → bd i < bd (i + 1)) ∧ (∀ i, i < h → bd i + 16 ≤ bd (i + 1) ∨ (i + 1 = h ∧ fr = n)) ∧ (∀ i, i < h → zo r (zs f (bd i) (bd (i + 1) - bd i))) ∧ ze r (zs f 0 fr) (zs F 0 fr) ∧ (∀ j, fr ≤ j → f j = F j)
theorem zPi_up {bd : Nat → Nat} {h : Nat} (hm : ∀ i, i < h → bd i < bd (i + 1)) : ∀ j, j ≤ h → ∀ i, i ≤ j → bd i ≤ bd j := by
  intro j
  induction j with
  | zero => intro _ i hi; rw [show i = 0 by omega]; exact Nat.le_refl _
  | succ j ih =>
    intro hj i hi
    by_cases e : i = j + 1
    · rw [e]; exact Nat.le_refl _
    · have h1 := ih (by omega) i (by omega)
      have h2 := hm j (by omega)
      omega
theorem zPi_0 {α : Type} {r : α → Int} {F : Nat → α} {n : Nat} : zPi r F F (fun _ => 0) n 0 0 := ⟨⟨rfl, rfl, Nat.zero_le _⟩, fun i hi => by omega, fun i hi => by omega, fun i hi => by omega, ze.rf _, fun _ _ => rfl⟩
theorem zPi_new {α : Type} {r : α → Int} {F f f' : Nat → α} {bd bd' : Nat → Nat} {n h fr e : Nat} (H : zPi r F f bd n h fr) (b1 : ∀ i, i ≤ h → bd' i = bd i) (b2 : bd' (h + 1) = e) (h1 : fr < e) (h2 : e ≤ n) (h3 : fr + 16 ≤ e ∨ e = n) (ho : ∀ j, j < fr ∨ e ≤ j → f' j = f j) (hs : zo r (zs f' fr (e - fr))) (he : ze r (zs f' fr (e - fr)) (zs f fr (e - fr))) : zPi r F f' bd' n (h + 1) e := by
  obtain ⟨⟨a1, a2, a3⟩, a4, a5, a6, a7, a8⟩ := H
  refine ⟨⟨by rw [b1 0 (by omega)]; exact a1, b2, h2⟩, fun i hi => ?_, fun i hi => ?_, fun i hi => ?_, ?_, fun j hj => ?_⟩
  · rw [b1 i (by omega)]
    by_cases e1 : i = h
    · rw [e1, b2, a2]; exact h1
    · rw [b1 (i + 1) (by omega)]; exact a4 i (by omega)
  · rw [b1 i (by omega)]
    by_cases e1 : i = h
    · rw [e1, b2, a2]; omega
    · rw [b1 (i + 1) (by omega)]
      have := a5 i (by omega)
      omega
  · rw [b1 i (by omega)]
    by_cases e1 : i = h
    · rw [e1, b2, a2]; exact hs
    · rw [b1 (i + 1) (by omega)]
      have k1 := zPi_up a4 h (Nat.le_refl _) (i + 1) (by omega)
      rw [show zs f' (bd i) (bd (i + 1) - bd i) = zs f (bd i) (bd (i + 1) - bd i) from zs_congr (fun j hj => ho _ (by omega))]
      exact a6 i (by omega)
  · have k : ∀ w : Nat → α, zs w 0 e = zs w 0 fr ++ zs w fr (e - fr) := fun w => by rw [zs_split w 0 (show fr ≤ e by omega), Nat.zero_add]
    rw [k f', k F, show zs f' 0 fr = zs f 0 fr from zs_congr (fun j hj => ho _ (by omega))]
    refine a7.app (he.tr (ze.of_eq (zs_congr (fun j hj => a8 _ (by omega)))))
  · rw [ho j (by omega)]; exact a8 j (by omega)
theorem zPi_join {α : Type} {r : α → Int} {F f f' : Nat → α} {bd bd' : Nat → Nat} {n h fr t : Nat} (H : zPi r F f bd n h fr) (ht : t + 2 ≤ h) (b1 : ∀ i, i ≤ t → bd' i = bd i) (b2 : ∀ i, t < i → bd' i = bd (i + 1)) (ho : ∀ j, j < bd t ∨ bd (t + 2) ≤ j → f' j = f j) (hs : zo r (zs f' (bd t) (bd (t + 2) - bd t))) (he : ze r (zs f' (bd t) (bd (t + 2) - bd t)) (zs f (bd t) (bd (t + 2) - bd t))) : zPi r F f' bd' n (h - 1) fr := by
  obtain ⟨⟨a1, a2, a3⟩, a4, a5, a6, a7, a8⟩ := H
  have up := zPi_up a4
  have u1 := a4 t (by omega)
  have u2 := a4 (t + 1) (by omega)
  rw [show t + 1 + 1 = t + 2 from rfl] at u2
  have u3 := up h (Nat.le_refl _) (t + 2) ht
  refine ⟨⟨by rw [b1 0 (by omega)]; exact a1, by rw [b2 (h - 1) (by omega), show h - 1 + 1 = h by omega]; exact a2, a3⟩, fun i hi => ?_, fun i hi => ?_, fun i hi => ?_, ?_, fun j hj => ?_⟩
  · rcases Nat.lt_trichotomy i t with e | e | e
    · rw [b1 i (by omega), b1 (i + 1) (by omega)]; exact a4 i (by omega)
    · rw [b1 i (by omega), b2 (i + 1) (by omega), e]; exact Nat.lt_trans u1 u2
    · rw [b2 i (by omega), b2 (i + 1) (by omega)]; exact a4 (i + 1) (by omega)
  · rcases Nat.lt_trichotomy i t with e | e | e
    · rw [b1 i (by omega), b1 (i + 1) (by omega)]
      have := a5 i (by omega)
      omega
    · rw [b1 i (by omega), b2 (i + 1) (by omega), e]
      have := a5 t (by omega)
      show bd t + 16 ≤ bd (t + 2) ∨ _
      omega
    · rw [b2 i (by omega), b2 (i + 1) (by omega)]
      have := a5 (i + 1) (by omega)
      omega
  · rcases Nat.lt_trichotomy i t with e | e | e
    · rw [b1 i (by omega), b1 (i + 1) (by omega)]
      have k1 := up t (by omega) (i + 1) (by omega)
      rw [show zs f' (bd i) (bd (i + 1) - bd i) = zs f (bd i) (bd (i + 1) - bd i) from zs_congr (fun j hj => ho _ (by omega))]
      exact a6 i (by omega)
    · rw [b1 i (by omega), b2 (i + 1) (by omega), e]
      exact hs
    · rw [b2 i (by omega), b2 (i + 1) (by omega)]
      have k1 := up (i + 1) (by omega) (t + 2) (by omega)
      rw [show zs f' (bd (i + 1)) (bd (i + 1 + 1) - bd (i + 1)) = zs f (bd (i + 1)) (bd (i + 1 + 1) - bd (i + 1)) from zs_congr (fun j hj => ho _ (by omega))]
      exact a6 (i + 1) (by omega)
  · have k := ze_in (r := r) (f := f') (g := f) (a := 0) (b := fr) (p := bd t) (q := bd (t + 2)) (by omega) (by omega) (by omega) he ho
    rw [Nat.sub_zero] at k
    exact k.tr a7
  · rw [ho j (by omega)]; exact a8 j hj
theorem zPi_low {bd : Nat → Nat} {h fr n : Nat} (a1 : bd 0 = 0) (a5 : ∀ i, i < h → bd i + 16 ≤ bd (i + 1) ∨ (i + 1 = h ∧ fr = n)) : ∀ t, t < h → 16 * t ≤ bd t := by
  intro t
  induction t with
  | zero => intro _; omega
  | succ t ih => intro ht; have h1 := ih (by omega); have h2 := a5 t (by omega); omega
theorem zPi_high {bd : Nat → Nat} {h fr n : Nat} (a4 : ∀ i, i < h → bd i < bd (i + 1)) (a5 : ∀ i, i < h → bd i + 16 ≤ bd (i + 1) ∨ (i + 1 = h ∧ fr = n)) (t : Nat) : ∀ s, t + s ≤ h → bd t + 16 * s ≤ bd (t + s) + (if fr = n then 15 else 0) ∧ (t + s < h → bd t + 16 * s ≤ bd (t + s)) := by
  intro s
  induction s with
  | zero => intro _; exact ⟨by rw [Nat.mul_zero]; exact Nat.le_add_right _ _, fun _ => Nat.le_refl _⟩
  | succ s ih =>
    intro hs
    have h1 := (ih (by omega)).2 (by omega)
    have h2 := a5 (t + s) (by omega)
    have h3 := a4 (t + s) (by omega)
    rw [← Nat.add_assoc]
    refine ⟨?_, fun q => by omega⟩
    by_cases e : fr = n
    · rw [if_pos e]; omega
    · rw [if_neg e]; omega
theorem zPi_size {α : Type} {r : α → Int} {F f : Nat → α} {bd : Nat → Nat} {n h fr t : Nat} (H : zPi r F f bd n h fr) (ht : t + 2 ≤ h) : bd (t + 2) - bd t + 16 * (h + (n - fr + 15) / 16) ≤ n + 47 := by
  obtain ⟨⟨a1, a2, a3⟩, a4, a5, -⟩ := H
  have h1 := zPi_low a1 a5 t (by omega)
  have h2 := (zPi_high a4 a5 (t + 2) (h - (t + 2)) (by omega)).1
  rw [show t + 2 + (h - (t + 2)) = h by omega, a2] at h2
  have h3 := zPi_up a4 (t + 2) ht t (by omega)
  by_cases e : fr = n
  · rw [if_pos e] at h2; omega
  · rw [if_neg e] at h2; omega
/-- what joins may cost when k runs are left -/
def zps (n : Nat) : Nat → Nat
  | 0 => 0
  | k + 1 => zps n k + (if k = 0 then 0 else 2 * (n + 47 - 16 * (k + 1)) + 1)
theorem zps_le (n : Nat) {j k : Nat} (h : j ≤ k) : zps n j ≤ zps n k := by
  induction k with
  | zero => rw [show j = 0 by omega]; exact Nat.le_refl _
  | succ k ih =>
    by_cases e : j = k + 1
    · rw [e]; exact Nat.le_refl _
    · exact Nat.le_trans (ih (by omega)) (Nat.le_add_right _ _)
theorem zps_s (n : Nat) {k : Nat} (h : 2 ≤ k) : zps n k = zps n (k - 1) + (2 * (n + 47 - 16 * k) + 1) := by
  obtain ⟨j, rfl⟩ : ∃ j, k = j + 1 := ⟨k - 1, by omega⟩
  show zps n j + (if j = 0 then 0 else _) = _
  rw [if_neg (by omega), Nat.add_sub_cancel]
set_option maxHeartbeats 4000000 in
set_option maxRecDepth 100000 in
theorem ct_Pi_arrange (l : Launch) (g : YG) (S : YS) (od : Nat) (tg : Bool) (c : Nat) (hJ : yJ S od tg c) (r : Nat) (hr : r < 6) (hr5 : 5 ≠ r) (n : Nat) (hn : n ≤ 1024) (hc : gF S (2 + r) 2 = nI n) (hb0 : gI S 22 0 = nI 0) : yC l mn_Pi_arrange mb_Pi_arrange 6 none 6 g [.ref (g.ad (21)), .ref (g.ad (2 + r))] S (fun v S' => ∃ (B' : Nat → Int32) (h' : Nat) (A' f' : Nat → Int64 × Int32) (c' : Nat), v = none ∧ S' = yPi S B' h' A' r f' c' ∧ B' 0 = nI 0 ∧ zo (zq od tg) (zs f' 0 n) ∧ ze (zq od tg) (zs f' 0 n) (zs (ye S r) 0 n) ∧ (∀ j, n ≤ j → f' j = (ye S r) j) ∧ c' ≤ c + 7 * n + zps n ((n + 15) / 16)) := by
  refine yC_of (by decide) (Nat.le_of_ble_eq_true rfl) ?_
  intro o hl hg hB0 hE
  subst hl
  subst hg
  have hB : yB o mb_Pi_arrange "OrderBench$Pile" := hB0
  have hm := hE.1
  show yW o (S) 0 [(0, .ref (o.G.ad (21))), (1, .ref (o.G.ad (2 + r)))] []
  obtain ⟨F, hF⟩ : ∃ z, z = (ye S r) := ⟨_, rfl⟩
  refine y_aload_n (pc' := 1) hB dc_Pi_arrange_0 rfl rfl 1 rfl ?_
  refine f_count (r := r) (pc' := 4) hB dc_Pi_arrange_1 rfl (by omega) q_52 ?_
  refine y_topi (y := nI (n)) hc ?_
  refine y_callS (As := [.int (nI (n))]) (rest := []) (pc' := 7) hB hE (ct_Pi_leastRun o.l o.G S n hn) mm_Pi_leastRun q_455 q_456 dc_Pi_arrange_4 rfl (by decide) rfl rfl (Nat.le_of_ble_eq_true rfl) (fun v S' hpost => ?_)
  obtain ⟨le, rfl, hSS, l1, l2, l3⟩ := hpost
  rw [hSS]
  clear hSS S'
  show yW o (S) 7 [(0, .ref (o.G.ad (21))), (1, .ref (o.G.ad (2 + r)))] [.int (nI (le))]
  refine y_istore_n (pc' := 8) (lv' := [(2, .int (nI (le))), (0, .ref (o.G.ad (21))), (1, .ref (o.G.ad (2 + r)))]) hB hm dc_Pi_arrange_7 rfl rfl (by decide) rfl ?_
  refine y_iconst (v := nI 0) (pc' := 9) hB dc_Pi_arrange_8 rfl rfl ?_
  refine y_istore_n (pc' := 10) (lv' := [(3, .int (nI (0))), (2, .int (nI (le))), (0, .ref (o.G.ad (21))), (1, .ref (o.G.ad (2 + r)))]) hB hm dc_Pi_arrange_9 rfl rfl (by decide) rfl ?_
  refine y_aload_n (pc' := 11) hB dc_Pi_arrange_10 rfl rfl 2 rfl ?_
  refine y_iconst (v := nI 0) (pc' := 12) hB dc_Pi_arrange_11 rfl rfl ?_
  refine p_P_height (pc' := 15) hB dc_Pi_arrange_12 rfl q_92 ?_
  refine y_iconst (v := nI 0) (pc' := 16) hB dc_Pi_arrange_15 rfl rfl ?_
  refine y_istore (pc' := 18) (lv' := [(4, .int (nI (0))), (3, .int (nI (0))), (2, .int (nI (le))), (0, .ref (o.G.ad (21))), (1, .ref (o.G.ad (2 + r)))]) hB hm dc_Pi_arrange_16 rfl (by decide) rfl ?_
  have last : ∀ (d : Nat) (h c1 : Nat) (bd : Nat → Nat) (B : Nat → Int32) (A f : Nat → Int64 × Int32), h < d → zPi (zq od tg) F f bd n h n → (∀ i, i ≤ h → B i = nI (bd i)) → c1 + zps n (h + (n - n + 15) / 16) ≤ c + 7 * n + zps n ((n + 15) / 16) → h ≤ 65 → yW o (yPi S B h A r f c1) 112 [(0, .ref (o.G.ad (21))), (1, .ref (o.G.ad (2 + r)))] [] := by
    intro d
    induction d with
    | zero => intro h c1 bd B A f hd; omega
    | succ d ih =>
      intro h c1 bd B A f hd i1 i2 i3 i4
      refine y_aload_n (pc' := 113) hB dc_Pi_arrange_112 rfl rfl 0 rfl ?_
      refine f_P_height (pc' := 116) hB dc_Pi_arrange_113 rfl q_92 ?_
      refine y_topi (y := nI (h)) yPi_h ?_
      refine y_iconst (v := nI 1) (pc' := 117) hB dc_Pi_arrange_116 rfl rfl ?_
      refine n_icmp_le (pc' := 120) (tg := 142) hB dc_Pi_arrange_117 rfl rfl (by omega) (by omega) (fun b1 => ?_) (fun b1 => ?_)
      · obtain ⟨⟨a1, a2, a3⟩, a4, a5, a6, a7, a8⟩ := i1
        rw [hF] at a7 a8
        have a9 : zo (zq od tg) (zs f 0 n) := by
          rcases (show h = 0 ∨ h = 1 by omega) with e | e
          · rw [e, a1] at a2; rw [← a2, zs_zero]; exact List.Pairwise.nil
          · have q := a6 0 (by omega); rw [e] at a2; rw [a1, Nat.zero_add, a2, Nat.sub_zero] at q; exact q
        exact y_vret hB hE dc_Pi_arrange_142 ⟨B, h, A, f, c1, rfl, rfl, by rw [i2 0 (by omega), a1], a9, a7, a8, Nat.le_trans (Nat.le_add_right _ _) i3⟩
      · refine y_aload_n (pc' := 121) hB dc_Pi_arrange_120 rfl rfl 0 rfl ?_
        refine y_aload_n (pc' := 122) hB dc_Pi_arrange_121 rfl rfl 1 rfl ?_
        refine y_aload_n (pc' := 123) hB dc_Pi_arrange_122 rfl rfl 0 rfl ?_
        refine y_callV (c := 21) (ci := 3) (As := []) (rest := [.ref (o.G.ad (2 + r)), .ref (o.G.ad (21))]) (pc' := 126) hB hE (ct_Pi_shorterOfLast o.l o.G (yPi S B h A r f c1) h yPi_h (by omega) i4) mm_Pi_shorterOfLast q_493 q_495 qs_5 (by decide) rfl rfl dc_Pi_arrange_123 rfl (by decide) rfl rfl (Nat.le_of_ble_eq_true rfl) (fun v S' hpost => ?_)
        obtain ⟨t, rfl, rfl, ht⟩ := hpost
        show yW o (yPi S B h A r f c1) 126 [(0, .ref (o.G.ad (21))), (1, .ref (o.G.ad (2 + r)))] [.int (nI (t)), .ref (o.G.ad (2 + r)), .ref (o.G.ad (21))]
        have e4 := zPi_up i1.2.1
        have e5 := i1.2.1 t (by omega)
        have e6 := i1.2.1 (t + 1) (by omega)
        have e7 := e4 h (Nat.le_refl _) (t + 2) ht
        have e8 := i1.1
        rw [e8.2.1] at e7
        refine y_callV (c := 21) (ci := 3) (As := [.ref (o.G.ad (2 + r)), .int (nI (t))]) (rest := []) (pc' := 129) hB hE (ct_Pi_joinWithNext o.l o.G (yPi S B h A r f c1) od tg c1 (yPi_J hJ) r hr hr5 h yPi_h (by omega) t ht (bd t) (bd (t + 1)) (bd (t + 2)) (by rw [yPi_B hr]; exact i2 _ (by omega)) (by rw [yPi_B hr]; exact i2 _ (by omega)) (by rw [yPi_B hr]; exact i2 _ (by omega)) (by omega) e6 (by omega) f yPi_ye (zo_seg.mp (i1.2.2.2.1 t (by omega))) (zo_seg.mp (i1.2.2.2.1 (t + 1) (by omega)))) mm_Pi_joinWithNext q_497 q_499 qs_6 (by decide) rfl rfl dc_Pi_arrange_126 rfl (by decide) rfl rfl (Nat.le_of_ble_eq_true rfl) (fun v S' hpost => ?_)
        obtain ⟨B', A', g', c', rfl, rfl, m1, m2, m3, m4, m5, m6⟩ := hpost
        rw [yPi_B hr] at m1 m2
        rw [yPi_join hr hr5]
        show yW o (yPi S B' h A' r g' c') 129 [(0, .ref (o.G.ad (21))), (1, .ref (o.G.ad (2 + r)))] []
        refine y_aload_n (pc' := 130) hB dc_Pi_arrange_129 rfl rfl 0 rfl ?_
        refine y_dup (pc' := 131) hB dc_Pi_arrange_130 rfl rfl ?_
        refine f_P_height (pc' := 134) hB dc_Pi_arrange_131 rfl q_92 ?_
        refine y_topi (y := nI (h)) yPi_h ?_
        refine y_iconst (v := nI 1) (pc' := 135) hB dc_Pi_arrange_134 rfl rfl ?_
        refine n_isub (x := h) (y := 1) (pc' := 136) hB dc_Pi_arrange_135 rfl (by omega) ?_
        refine p_P_height (pc' := 139) hB dc_Pi_arrange_136 rfl q_92 ?_
        rw [yPi_put]
        have j1 := zPi_join (bd' := fun i => if i ≤ t then bd i else bd (i + 1)) i1 ht (fun i hi => if_pos hi) (fun i hi => if_neg (by omega)) m3 m4 m5
        have j4 := zPi_size i1 ht
        have j2 : ∀ i, i ≤ h - 1 → B' i = nI ((fun i => if i ≤ t then bd i else bd (i + 1)) i) := by
          intro i hi
          show _ = nI (if i ≤ t then bd i else bd (i + 1))
          by_cases e : i ≤ t
          · rw [if_pos e, m1 i e]; exact i2 i (by omega)
          · rw [if_neg e, m2 i (by omega) (by omega)]; exact i2 (i + 1) (by omega)
        have j3 : c' + zps n (h - 1 + (n - n + 15) / 16) ≤ c + 7 * n + zps n ((n + 15) / 16) := by
          have q := zps_s n (k := h + (n - n + 15) / 16) (by omega)
          rw [show h + (n - n + 15) / 16 - 1 = h - 1 + (n - n + 15) / 16 by omega] at q
          omega
        refine y_goto (tg := 112) hB dc_Pi_arrange_139 rfl ?_
        exact ih (h - 1) c' _ B' A' g' (by omega) j1 j2 j3 (by omega)
  have outer : ∀ (d : Nat) (fd fr h c1 : Nat) (bd : Nat → Nat) (B : Nat → Int32) (A f : Nat → Int64 × Int32), 66 - fd < d → zPi (zq od tg) F f bd n h fr → (∀ i, i ≤ h → B i = nI (bd i)) → c1 + zps n (h + (n - fr + 15) / 16) ≤ c + 7 * fr + zps n ((n + 15) / 16) → h ≤ fd ∧ fd ≤ 65 → 16 * fd ≤ fr ∨ fr = n → yW o (yPi S B h A r f c1) 18 [(4, .int (nI (fd))), (3, .int (nI (fr))), (2, .int (nI (le))), (0, .ref (o.G.ad (21))), (1, .ref (o.G.ad (2 + r)))] [] := by
    intro d
    induction d with
    | zero => intro fd fr h c1 bd B A f hd; omega
    | succ d ih =>
      intro fd fr h c1 bd B A f hd i1 i2 i3 i4 i5
      have i6 := i1.1
      refine y_iload (pc' := 20) hB dc_Pi_arrange_18 rfl 0 rfl ?_
      refine y_bipush (v := nI 65) (pc' := 22) hB dc_Pi_arrange_20 rfl (by decide) ?_
      refine n_icmp_ge (pc' := 25) (tg := 112) hB dc_Pi_arrange_22 rfl rfl (by omega) (by omega) (fun b1 => ?_) (fun b1 => ?_)
      · have e : fr = n := by omega
        rw [e] at i1 i3
        refine y_sub [3, 4] rfl ?_
        exact last (h + 1) h c1 bd B A f (by omega) i1 i2 i3 (by omega)
      · refine y_iload_n (pc' := 26) hB dc_Pi_arrange_25 rfl rfl 1 rfl ?_
        refine y_aload_n (pc' := 27) hB dc_Pi_arrange_26 rfl rfl 4 rfl ?_
        refine f_count (r := r) (pc' := 30) hB dc_Pi_arrange_27 rfl (by omega) q_52 ?_
        refine y_topi (y := nI (n)) ((yPi_n hr).trans hc) ?_
        refine n_icmp_ge (pc' := 33) (tg := 112) hB dc_Pi_arrange_30 rfl rfl (by omega) (by omega) (fun b2 => ?_) (fun b2 => ?_)
        · have e : fr = n := by omega
          rw [e] at i1 i3
          refine y_sub [3, 4] rfl ?_
          exact last (h + 1) h c1 bd B A f (by omega) i1 i2 i3 (by omega)
        · have inner : ∀ (d2 : Nat) (x : Int32) (e h c1 : Nat) (bd : Nat → Nat) (B : Nat → Int32) (A f : Nat → Int64 × Int32), h < d2 → zPi (zq od tg) F f bd n h e → (∀ i, i ≤ h → B i = nI (bd i)) → c1 + zps n (h + (n - e + 15) / 16) ≤ c + 7 * e + zps n ((n + 15) / 16) → 1 ≤ h ∧ h ≤ fd + 1 → 16 * (fd + 1) ≤ e ∨ e = n → (x = -1 ∨ ∃ t, x = nI t ∧ t + 2 ≤ h) → yW o (yPi S B h A r f c1) 67 [(5, .int (x)), (4, .int (nI (fd))), (3, .int (nI (e))), (2, .int (nI (le))), (0, .ref (o.G.ad (21))), (1, .ref (o.G.ad (2 + r)))] [] := by
            intro d2
            induction d2 with
            | zero => intro x e h c1 bd B A f hd2; omega
            | succ d2 ih2 =>
              intro x e h c1 bd B A f hd2 i1 i2 i3 i4 i5 i7
              refine y_iload (pc' := 69) hB dc_Pi_arrange_67 rfl 0 rfl ?_
              rcases i7 with rfl | ⟨t, rfl, ht⟩
              · refine y_if_lt (x := -1) (pc' := 72) (tg := 106) hB dc_Pi_arrange_69 rfl rfl (fun b3 => ?_) (fun b3 => ?_)
                · refine n_inc (q := 1) (z := 1) (pc' := 109) (lv' := [(4, .int (nI (fd + 1))), (5, .int (-1)), (3, .int (nI (e))), (2, .int (nI (le))), (0, .ref (o.G.ad (21))), (1, .ref (o.G.ad (2 + r)))]) hB hm dc_Pi_arrange_106 rfl rfl (by decide) rfl ?_
                  refine y_goto (tg := 18) hB dc_Pi_arrange_109 rfl ?_
                  refine y_sub [0, 2, 3, 4, 5] rfl ?_
                  exact ih (fd + 1) e h c1 bd B A f (by omega) i1 i2 i3 (by omega) i5
                · exact absurd (by decide) b3
              · refine n_if_lt (pc' := 72) (tg := 106) hB dc_Pi_arrange_69 rfl rfl (by omega) ?_
                refine y_aload_n (pc' := 73) hB dc_Pi_arrange_72 rfl rfl 4 rfl ?_
                refine f_P_height (pc' := 76) hB dc_Pi_arrange_73 rfl q_92 ?_
                refine y_topi (y := nI (h)) yPi_h ?_
                refine y_iconst (v := nI 1) (pc' := 77) hB dc_Pi_arrange_76 rfl rfl ?_
                refine n_icmp_le (pc' := 80) (tg := 106) hB dc_Pi_arrange_77 rfl rfl (by omega) (by omega) (fun b4 => ?_) (fun b4 => ?_)
                · refine n_inc (q := 1) (z := 1) (pc' := 109) (lv' := [(4, .int (nI (fd + 1))), (5, .int (nI (t))), (3, .int (nI (e))), (2, .int (nI (le))), (0, .ref (o.G.ad (21))), (1, .ref (o.G.ad (2 + r)))]) hB hm dc_Pi_arrange_106 rfl rfl (by decide) rfl ?_
                  refine y_goto (tg := 18) hB dc_Pi_arrange_109 rfl ?_
                  refine y_sub [0, 2, 3, 4, 5] rfl ?_
                  exact ih (fd + 1) e h c1 bd B A f (by omega) i1 i2 i3 (by omega) i5
                · have i8 := i1.1
                  refine y_aload_n (pc' := 81) hB dc_Pi_arrange_80 rfl rfl 4 rfl ?_
                  refine y_aload_n (pc' := 82) hB dc_Pi_arrange_81 rfl rfl 5 rfl ?_
                  refine y_iload (pc' := 84) hB dc_Pi_arrange_82 rfl 0 rfl ?_
                  have e4 := zPi_up i1.2.1
                  have e5 := i1.2.1 t (by omega)
                  have e6 := i1.2.1 (t + 1) (by omega)
                  have e7 := e4 h (Nat.le_refl _) (t + 2) ht
                  have e8 := i1.1
                  rw [e8.2.1] at e7
                  refine y_callV (c := 21) (ci := 3) (As := [.ref (o.G.ad (2 + r)), .int (nI (t))]) (rest := []) (pc' := 87) hB hE (ct_Pi_joinWithNext o.l o.G (yPi S B h A r f c1) od tg c1 (yPi_J hJ) r hr hr5 h yPi_h (by omega) t ht (bd t) (bd (t + 1)) (bd (t + 2)) (by rw [yPi_B hr]; exact i2 _ (by omega)) (by rw [yPi_B hr]; exact i2 _ (by omega)) (by rw [yPi_B hr]; exact i2 _ (by omega)) (by omega) e6 (by omega) f yPi_ye (zo_seg.mp (i1.2.2.2.1 t (by omega))) (zo_seg.mp (i1.2.2.2.1 (t + 1) (by omega)))) mm_Pi_joinWithNext q_497 q_499 qs_6 (by decide) rfl rfl dc_Pi_arrange_84 rfl (by decide) rfl rfl (Nat.le_of_ble_eq_true rfl) (fun v S' hpost => ?_)
                  obtain ⟨B', A', g', c', rfl, rfl, m1, m2, m3, m4, m5, m6⟩ := hpost
                  rw [yPi_B hr] at m1 m2
                  rw [yPi_join hr hr5]
                  show yW o (yPi S B' h A' r g' c') 87 [(5, .int (nI (t))), (4, .int (nI (fd))), (3, .int (nI (e))), (2, .int (nI (le))), (0, .ref (o.G.ad (21))), (1, .ref (o.G.ad (2 + r)))] []
                  refine y_aload_n (pc' := 88) hB dc_Pi_arrange_87 rfl rfl 4 rfl ?_
                  refine y_dup (pc' := 89) hB dc_Pi_arrange_88 rfl rfl ?_
                  refine f_P_height (pc' := 92) hB dc_Pi_arrange_89 rfl q_92 ?_
                  refine y_topi (y := nI (h)) yPi_h ?_
                  refine y_iconst (v := nI 1) (pc' := 93) hB dc_Pi_arrange_92 rfl rfl ?_
                  refine n_isub (x := h) (y := 1) (pc' := 94) hB dc_Pi_arrange_93 rfl (by omega) ?_
                  refine p_P_height (pc' := 97) hB dc_Pi_arrange_94 rfl q_92 ?_
                  rw [yPi_put]
                  have j1 := zPi_join (bd' := fun i => if i ≤ t then bd i else bd (i + 1)) i1 ht (fun i hi => if_pos hi) (fun i hi => if_neg (by omega)) m3 m4 m5
                  have j4 := zPi_size i1 ht
                  have j2 : ∀ i, i ≤ h - 1 → B' i = nI ((fun i => if i ≤ t then bd i else bd (i + 1)) i) := by
                    intro i hi
                    show _ = nI (if i ≤ t then bd i else bd (i + 1))
                    by_cases e : i ≤ t
                    · rw [if_pos e, m1 i e]; exact i2 i (by omega)
                    · rw [if_neg e, m2 i (by omega) (by omega)]; exact i2 (i + 1) (by omega)
                  have j3 : c' + zps n (h - 1 + (n - e + 15) / 16) ≤ c + 7 * e + zps n ((n + 15) / 16) := by
                    have q := zps_s n (k := h + (n - e + 15) / 16) (by omega)
                    rw [show h + (n - e + 15) / 16 - 1 = h - 1 + (n - e + 15) / 16 by omega] at q
                    omega
                  refine y_aload_n (pc' := 98) hB dc_Pi_arrange_97 rfl rfl 4 rfl ?_
                  refine y_callV (c := 21) (ci := 3) (As := []) (rest := []) (pc' := 101) hB hE (ct_Pi_unevenRun o.l o.G (yPi S B' (h - 1) A' r g' c') (h - 1) yPi_h (by omega) (by omega)) mm_Pi_unevenRun q_485 q_487 qs_3 (by decide) rfl rfl dc_Pi_arrange_98 rfl (by decide) rfl rfl (Nat.le_of_ble_eq_true rfl) (fun v S' hpost => ?_)
                  obtain ⟨x2, rfl, rfl, hx2⟩ := hpost
                  show yW o (yPi S B' (h - 1) A' r g' c') 101 [(5, .int (nI (t))), (4, .int (nI (fd))), (3, .int (nI (e))), (2, .int (nI (le))), (0, .ref (o.G.ad (21))), (1, .ref (o.G.ad (2 + r)))] [.int (x2)]
                  refine y_istore (pc' := 103) (lv' := [(5, .int (x2)), (4, .int (nI (fd))), (3, .int (nI (e))), (2, .int (nI (le))), (0, .ref (o.G.ad (21))), (1, .ref (o.G.ad (2 + r)))]) hB hm dc_Pi_arrange_101 rfl (by decide) rfl ?_
                  refine y_goto (tg := 67) hB dc_Pi_arrange_103 rfl ?_
                  refine y_sub [0, 1, 2, 3, 4, 5] rfl ?_
                  exact ih2 x2 e (h - 1) c' _ B' A' g' (by omega) j1 j2 j3 (by omega) i5 hx2
          refine y_aload_n (pc' := 34) hB dc_Pi_arrange_33 rfl rfl 3 rfl ?_
          refine y_aload_n (pc' := 35) hB dc_Pi_arrange_34 rfl rfl 4 rfl ?_
          refine y_iload_n (pc' := 36) hB dc_Pi_arrange_35 rfl rfl 1 rfl ?_
          refine y_iload_n (pc' := 37) hB dc_Pi_arrange_36 rfl rfl 2 rfl ?_
          refine y_callV (c := 21) (ci := 3) (As := [.ref (o.G.ad (2 + r)), .int (nI (fr)), .int (nI (le))]) (rest := []) (pc' := 40) hB hE (ct_Pi_makeRun o.l o.G (yPi S B h A r f c1) od tg c1 (yPi_J hJ) r hr n hn ((yPi_n hr).trans hc) fr b2 le l1) mm_Pi_makeRun q_458 q_460 qs_2 (by decide) rfl rfl dc_Pi_arrange_37 rfl (by decide) rfl rfl (Nat.le_of_ble_eq_true rfl) (fun v S' hpost => ?_)
          obtain ⟨e, f3, c3, rfl, rfl, n1, n2, n3, n4, n5, n6, n7⟩ := hpost
          rw [yPi_ye] at n4 n6
          rw [yPi_run]
          show yW o (yPi S B h A r f3 c3) 40 [(4, .int (nI (fd))), (3, .int (nI (fr))), (2, .int (nI (le))), (0, .ref (o.G.ad (21))), (1, .ref (o.G.ad (2 + r)))] [.int (nI (e))]
          refine y_istore_n (pc' := 41) (lv' := [(3, .int (nI (e))), (4, .int (nI (fd))), (2, .int (nI (le))), (0, .ref (o.G.ad (21))), (1, .ref (o.G.ad (2 + r)))]) hB hm dc_Pi_arrange_40 rfl rfl (by decide) rfl ?_
          refine y_aload_n (pc' := 42) hB dc_Pi_arrange_41 rfl rfl 3 rfl ?_
          refine y_dup (pc' := 43) hB dc_Pi_arrange_42 rfl rfl ?_
          refine f_P_height (pc' := 46) hB dc_Pi_arrange_43 rfl q_92 ?_
          refine y_topi (y := nI (h)) yPi_h ?_
          refine y_iconst (v := nI 1) (pc' := 47) hB dc_Pi_arrange_46 rfl rfl ?_
          refine n_iadd (x := h) (y := 1) (pc' := 48) hB dc_Pi_arrange_47 rfl ?_
          refine p_P_height (pc' := 51) hB dc_Pi_arrange_48 rfl q_92 ?_
          rw [yPi_put]
          refine y_aload_n (pc' := 52) hB dc_Pi_arrange_51 rfl rfl 3 rfl ?_
          refine f_P_borders (pc' := 55) hB dc_Pi_arrange_52 rfl q_91 ?_
          refine y_aload_n (pc' := 56) hB dc_Pi_arrange_55 rfl rfl 3 rfl ?_
          refine f_P_height (pc' := 59) hB dc_Pi_arrange_56 rfl q_92 ?_
          refine y_topi (y := nI (h + 1)) yPi_h ?_
          refine y_iload_n (pc' := 60) hB dc_Pi_arrange_59 rfl rfl 0 rfl ?_
          refine y_iast (c := 22) (n := 66) (j := h + 1) (pc' := 61) hB dc_Pi_arrange_60 rfl (by decide) rfl (by omega) (by decide) ?_
          rw [yPi_B hr, yPi_sI hr]
          refine y_aload_n (pc' := 62) hB dc_Pi_arrange_61 rfl rfl 3 rfl ?_
          refine y_callV (c := 21) (ci := 3) (As := []) (rest := []) (pc' := 65) hB hE (ct_Pi_unevenRun o.l o.G (yPi S (upd B (h + 1) (nI (e))) (h + 1) A r f3 c3) (h + 1) yPi_h (by omega) (by omega)) mm_Pi_unevenRun q_485 q_487 qs_3 (by decide) rfl rfl dc_Pi_arrange_62 rfl (by decide) rfl rfl (Nat.le_of_ble_eq_true rfl) (fun v S' hpost => ?_)
          obtain ⟨x2, rfl, rfl, hx2⟩ := hpost
          show yW o (yPi S (upd B (h + 1) (nI (e))) (h + 1) A r f3 c3) 65 [(3, .int (nI (e))), (4, .int (nI (fd))), (2, .int (nI (le))), (0, .ref (o.G.ad (21))), (1, .ref (o.G.ad (2 + r)))] [.int (x2)]
          refine y_istore (pc' := 67) (lv' := [(5, .int (x2)), (3, .int (nI (e))), (4, .int (nI (fd))), (2, .int (nI (le))), (0, .ref (o.G.ad (21))), (1, .ref (o.G.ad (2 + r)))]) hB hm dc_Pi_arrange_65 rfl (by decide) rfl ?_
          refine y_sub [0, 2, 1, 3, 4, 5] rfl ?_
          refine inner (h + 2) x2 e (h + 1) c3 _ _ A f3 (by omega) (zPi_new (bd' := fun i => if i ≤ h then bd i else e) i1 (fun i hi => if_pos hi) (if_neg (by omega)) n1 n2 (by omega) n4 n5 n6) (fun i hi => ?_) ?_ (by omega) (by omega) hx2
          · show upd B (h + 1) (nI e) i = nI (if i ≤ h then bd i else e)
            unfold upd
            by_cases q : i = h + 1
            · rw [if_pos q, if_neg (by omega)]
            · rw [if_neg q, if_pos (by omega)]; exact i2 i (by omega)
          · have q := zps_le n (show h + 1 + (n - e + 15) / 16 ≤ h + (n - fr + 15) / 16 by omega)
            omega
  have h0 := outer 67 0 0 0 c (fun _ => 0) (gI S 22) (ye S 5) (ye S r) (by omega) (by rw [hF]; exact zPi_0) (fun i hi => by rw [show i = 0 by omega]; exact hb0) (by rw [Nat.zero_add, Nat.sub_zero]; omega) (by omega) (by omega)
  rw [yPi_0 hJ r] at h0
  exact h0
