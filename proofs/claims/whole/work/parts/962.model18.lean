/-! REFERENCE: front -/
theorem dc_M_front_0 : decode mb_M_front 0 = .ok (.aload_n 0, 1) := by decide +kernel
theorem dc_M_front_1 : decode mb_M_front 1 = .ok (.iload_n 1, 1) := by decide +kernel
theorem dc_M_front_2 : decode mb_M_front 2 = .ok (.invokevirtual 56, 3) := by decide +kernel
theorem dc_M_front_5 : decode mb_M_front 5 = .ok (.ifCond .ne 11, 3) := by decide +kernel
theorem dc_M_front_8 : decode mb_M_front 8 = .ok (.aload_n 0, 1) := by decide +kernel
theorem dc_M_front_9 : decode mb_M_front 9 = .ok (.iload_n 2, 1) := by decide +kernel
theorem dc_M_front_10 : decode mb_M_front 10 = .ok (.invokevirtual 81, 3) := by decide +kernel
theorem dc_M_front_13 : decode mb_M_front 13 = .ok (.ifCond .eq 4, 3) := by decide +kernel
theorem dc_M_front_16 : decode mb_M_front 16 = .ok (.return_, 1) := by decide +kernel
theorem dc_M_front_17 : decode mb_M_front 17 = .ok (.aload_n 0, 1) := by decide +kernel
theorem dc_M_front_18 : decode mb_M_front 18 = .ok (.iload_n 3, 1) := by decide +kernel
theorem dc_M_front_19 : decode mb_M_front 19 = .ok (.ifCond .lt 13, 3) := by decide +kernel
theorem dc_M_front_22 : decode mb_M_front 22 = .ok (.iload_n 3, 1) := by decide +kernel
theorem dc_M_front_23 : decode mb_M_front 23 = .ok (.aload_n 0, 1) := by decide +kernel
theorem dc_M_front_24 : decode mb_M_front 24 = .ok (.getfield 17, 3) := by decide +kernel
theorem dc_M_front_27 : decode mb_M_front 27 = .ok (.iload_n 1, 1) := by decide +kernel
theorem dc_M_front_28 : decode mb_M_front 28 = .ok (.iaload, 1) := by decide +kernel
theorem dc_M_front_29 : decode mb_M_front 29 = .ok (.if_icmp .le 7, 3) := by decide +kernel
theorem dc_M_front_32 : decode mb_M_front 32 = .ok (.iconst 2, 1) := by decide +kernel
theorem dc_M_front_33 : decode mb_M_front 33 = .ok (.goto 4, 3) := by decide +kernel
theorem dc_M_front_36 : decode mb_M_front 36 = .ok (.iconst 0, 1) := by decide +kernel
theorem dc_M_front_37 : decode mb_M_front 37 = .ok (.putfield 29, 3) := by decide +kernel
theorem dc_M_front_40 : decode mb_M_front 40 = .ok (.aload_n 0, 1) := by decide +kernel
theorem dc_M_front_41 : decode mb_M_front 41 = .ok (.getfield 29, 3) := by decide +kernel
theorem dc_M_front_44 : decode mb_M_front 44 = .ok (.ifCond .le 4, 3) := by decide +kernel
theorem dc_M_front_47 : decode mb_M_front 47 = .ok (.return_, 1) := by decide +kernel
theorem dc_M_front_48 : decode mb_M_front 48 = .ok (.iload_n 3, 1) := by decide +kernel
theorem dc_M_front_49 : decode mb_M_front 49 = .ok (.istore 4, 2) := by decide +kernel
theorem dc_M_front_51 : decode mb_M_front 51 = .ok (.iconst 0, 1) := by decide +kernel
theorem dc_M_front_52 : decode mb_M_front 52 = .ok (.istore 5, 2) := by decide +kernel
theorem dc_M_front_54 : decode mb_M_front 54 = .ok (.iload 5, 2) := by decide +kernel
theorem dc_M_front_56 : decode mb_M_front 56 = .ok (.aload_n 0, 1) := by decide +kernel
theorem dc_M_front_57 : decode mb_M_front 57 = .ok (.getfield 17, 3) := by decide +kernel
theorem dc_M_front_60 : decode mb_M_front 60 = .ok (.iload_n 1, 1) := by decide +kernel
theorem dc_M_front_61 : decode mb_M_front 61 = .ok (.iaload, 1) := by decide +kernel
theorem dc_M_front_62 : decode mb_M_front 62 = .ok (.if_icmp .ge 91, 3) := by decide +kernel
theorem dc_M_front_65 : decode mb_M_front 65 = .ok (.aload_n 0, 1) := by decide +kernel
theorem dc_M_front_66 : decode mb_M_front 66 = .ok (.iload_n 1, 1) := by decide +kernel
theorem dc_M_front_67 : decode mb_M_front 67 = .ok (.iload_n 2, 1) := by decide +kernel
theorem dc_M_front_68 : decode mb_M_front 68 = .ok (.iload 5, 2) := by decide +kernel
theorem dc_M_front_70 : decode mb_M_front 70 = .ok (.invokevirtual 105, 3) := by decide +kernel
theorem dc_M_front_73 : decode mb_M_front 73 = .ok (.istore 6, 2) := by decide +kernel
theorem dc_M_front_75 : decode mb_M_front 75 = .ok (.iload 6, 2) := by decide +kernel
theorem dc_M_front_77 : decode mb_M_front 77 = .ok (.iload_n 3, 1) := by decide +kernel
theorem dc_M_front_78 : decode mb_M_front 78 = .ok (.if_icmp .ge 8, 3) := by decide +kernel
theorem dc_M_front_81 : decode mb_M_front 81 = .ok (.iload 6, 2) := by decide +kernel
theorem dc_M_front_83 : decode mb_M_front 83 = .ok (.goto 5, 3) := by decide +kernel
theorem dc_M_front_86 : decode mb_M_front 86 = .ok (.iload 4, 2) := by decide +kernel
theorem dc_M_front_88 : decode mb_M_front 88 = .ok (.istore 7, 2) := by decide +kernel
theorem dc_M_front_90 : decode mb_M_front 90 = .ok (.iload 6, 2) := by decide +kernel
theorem dc_M_front_92 : decode mb_M_front 92 = .ok (.iload_n 3, 1) := by decide +kernel
theorem dc_M_front_93 : decode mb_M_front 93 = .ok (.if_icmp .ge 8, 3) := by decide +kernel
theorem dc_M_front_96 : decode mb_M_front 96 = .ok (.iload 4, 2) := by decide +kernel
theorem dc_M_front_98 : decode mb_M_front 98 = .ok (.goto 7, 3) := by decide +kernel
theorem dc_M_front_101 : decode mb_M_front 101 = .ok (.iload 4, 2) := by decide +kernel
theorem dc_M_front_103 : decode mb_M_front 103 = .ok (.iconst 1, 1) := by decide +kernel
theorem dc_M_front_104 : decode mb_M_front 104 = .ok (.iadd, 1) := by decide +kernel
theorem dc_M_front_105 : decode mb_M_front 105 = .ok (.istore 4, 2) := by decide +kernel
theorem dc_M_front_107 : decode mb_M_front 107 = .ok (.aload_n 0, 1) := by decide +kernel
theorem dc_M_front_108 : decode mb_M_front 108 = .ok (.getfield 20, 3) := by decide +kernel
theorem dc_M_front_111 : decode mb_M_front 111 = .ok (.iload 7, 2) := by decide +kernel
theorem dc_M_front_113 : decode mb_M_front 113 = .ok (.aload_n 0, 1) := by decide +kernel
theorem dc_M_front_114 : decode mb_M_front 114 = .ok (.getfield 7, 3) := by decide +kernel
theorem dc_M_front_117 : decode mb_M_front 117 = .ok (.sipush 1024, 3) := by decide +kernel
theorem dc_M_front_120 : decode mb_M_front 120 = .ok (.iload_n 1, 1) := by decide +kernel
theorem dc_M_front_121 : decode mb_M_front 121 = .ok (.imul, 1) := by decide +kernel
theorem dc_M_front_122 : decode mb_M_front 122 = .ok (.iload 5, 2) := by decide +kernel
theorem dc_M_front_124 : decode mb_M_front 124 = .ok (.iadd, 1) := by decide +kernel
theorem dc_M_front_125 : decode mb_M_front 125 = .ok (.laload, 1) := by decide +kernel
theorem dc_M_front_126 : decode mb_M_front 126 = .ok (.lastore, 1) := by decide +kernel
theorem dc_M_front_127 : decode mb_M_front 127 = .ok (.aload_n 0, 1) := by decide +kernel
theorem dc_M_front_128 : decode mb_M_front 128 = .ok (.getfield 23, 3) := by decide +kernel
theorem dc_M_front_131 : decode mb_M_front 131 = .ok (.iload 7, 2) := by decide +kernel
theorem dc_M_front_133 : decode mb_M_front 133 = .ok (.aload_n 0, 1) := by decide +kernel
theorem dc_M_front_134 : decode mb_M_front 134 = .ok (.getfield 13, 3) := by decide +kernel
theorem dc_M_front_137 : decode mb_M_front 137 = .ok (.sipush 1024, 3) := by decide +kernel
theorem dc_M_front_140 : decode mb_M_front 140 = .ok (.iload_n 1, 1) := by decide +kernel
theorem dc_M_front_141 : decode mb_M_front 141 = .ok (.imul, 1) := by decide +kernel
theorem dc_M_front_142 : decode mb_M_front 142 = .ok (.iload 5, 2) := by decide +kernel
theorem dc_M_front_144 : decode mb_M_front 144 = .ok (.iadd, 1) := by decide +kernel
theorem dc_M_front_145 : decode mb_M_front 145 = .ok (.iaload, 1) := by decide +kernel
theorem dc_M_front_146 : decode mb_M_front 146 = .ok (.iastore, 1) := by decide +kernel
theorem dc_M_front_147 : decode mb_M_front 147 = .ok (.iinc 5 1, 3) := by decide +kernel
theorem dc_M_front_150 : decode mb_M_front 150 = .ok (.goto (-96), 3) := by decide +kernel
theorem dc_M_front_153 : decode mb_M_front 153 = .ok (.aload_n 0, 1) := by decide +kernel
theorem dc_M_front_154 : decode mb_M_front 154 = .ok (.aload_n 0, 1) := by decide +kernel
theorem dc_M_front_155 : decode mb_M_front 155 = .ok (.getfield 17, 3) := by decide +kernel
theorem dc_M_front_158 : decode mb_M_front 158 = .ok (.iload_n 1, 1) := by decide +kernel
theorem dc_M_front_159 : decode mb_M_front 159 = .ok (.iaload, 1) := by decide +kernel
theorem dc_M_front_160 : decode mb_M_front 160 = .ok (.putfield 70, 3) := by decide +kernel
theorem dc_M_front_163 : decode mb_M_front 163 = .ok (.aload_n 0, 1) := by decide +kernel
theorem dc_M_front_164 : decode mb_M_front 164 = .ok (.iload_n 1, 1) := by decide +kernel
theorem dc_M_front_165 : decode mb_M_front 165 = .ok (.invokevirtual 91, 3) := by decide +kernel
theorem dc_M_front_168 : decode mb_M_front 168 = .ok (.return_, 1) := by decide +kernel
theorem zfn_count (b : Nat → Bool) : ∀ n, zfn b n = (List.range n).countP b := by
  intro n
  induction n with
  | zero => rfl
  | succ n ih =>
    rw [List.range_succ, List.countP_append, ← ih]
    show zfn b n + (if b n then 1 else 0) = _
    rw [List.countP_singleton]
theorem zix_lex (od : Nat) (F : Nat → Int64 × Int32) (n : Nat) : (zs (zix od F n) 0 n).Pairwise (fun a b => zr od (F a).1 < zr od (F b).1 ∨ (zr od (F a).1 = zr od (F b).1 ∧ a < b)) := by
  rw [zix_zs]
  rw [List.pairwise_iff_forall_sublist]
  intro a b hab
  have h1 : zr od (F a).1 ≤ zr od (F b).1 := (List.pairwise_iff_forall_sublist.mp (zt_o (fun j => zr od (F j).1) (List.range n))) hab
  by_cases e : zr od (F a).1 = zr od (F b).1
  · refine Or.inr ⟨e, ?_⟩
    have h2 := hab.filter (fun x => decide (zr od (F x).1 = zr od (F b).1))
    have h3 := zt_e (fun j => zr od (F j).1) (List.range n) (zr od (F b).1)
    rw [h3] at h2
    have h4 : [a, b].filter (fun x => decide (zr od (F x).1 = zr od (F b).1)) = [a, b] := by simp [e]
    rw [h4] at h2
    have h5 : (List.range n).Pairwise (· < ·) := List.pairwise_lt_range
    exact List.pairwise_iff_forall_sublist.mp h5 (h2.trans List.filter_sublist)
  · exact Or.inl (by omega)
theorem zix_inj {od n : Nat} {F : Nat → Int64 × Int32} {i j : Nat} (hi : i < n) (hj : j < n) (h : zix od F n i = zix od F n j) : i = j := by
  have hp := zix_lex od F n
  have key : ∀ i j, i < j → j < n → zix od F n i ≠ zix od F n j := by
    intro i j hij hj e
    have hl : (zs (zix od F n) 0 n).length = n := zs_len _ _ _
    have h2 := List.pairwise_iff_getElem.mp hp i j (by omega) (by omega) hij
    have e1 : ∀ (i : Nat) (h : i < (zs (zix od F n) 0 n).length), (zs (zix od F n) 0 n)[i] = zix od F n i := fun i h => by
      have := zs_get (zix od F n) 0 (i := i) (n := n) (by omega)
      rw [List.getElem?_eq_getElem h, Nat.zero_add] at this
      exact Option.some.inj this
    rw [e1, e1, e] at h2
    omega
  by_cases e : i = j
  · exact e
  · rcases Nat.lt_or_gt_of_ne e with q | q
    · exact (key i j q hj h).elim
    · exact (key j i q hi h.symm).elim
theorem zix_rank {od n : Nat} {F : Nat → Int64 × Int32} {i : Nat} (hi : i < n) : zfn (zrb od F i) n < n ∧ zix od F n (zfn (zrb od F i) n) = i := by
  have hp := zix_lex od F n
  have hm : i ∈ zs (zix od F n) 0 n := (zix_perm od F n).symm.mem_iff.mp (List.mem_range.mpr hi)
  obtain ⟨p, hpn, hpi⟩ := zs_mem.mp hm
  rw [Nat.zero_add] at hpi
  have hl : (zs (zix od F n) 0 n).length = n := zs_len _ _ _
  have e1 : ∀ (i : Nat) (h : i < (zs (zix od F n) 0 n).length), (zs (zix od F n) 0 n)[i] = zix od F n i := fun i h => by
    have := zs_get (zix od F n) 0 (i := i) (n := n) (by omega)
    rw [List.getElem?_eq_getElem h, Nat.zero_add] at this
    exact Option.some.inj this
  have lx : ∀ a b, a < b → b < n → zr od (F (zix od F n a)).1 < zr od (F (zix od F n b)).1 ∨ (zr od (F (zix od F n a)).1 = zr od (F (zix od F n b)).1 ∧ zix od F n a < zix od F n b) := by
    intro a b hab hb
    have h2 := List.pairwise_iff_getElem.mp hp a b (by omega) (by omega) hab
    rw [e1, e1] at h2
    exact h2
  have hc : zfn (zrb od F i) n = p := by
    rw [zfn_count, ← (zix_perm od F n).countP_eq]
    unfold zs
    rw [List.countP_map, ← zfn_count]
    refine zfn_of n (by omega) (fun j hj => ?_) (fun j h1 h2 => ?_)
    · show zrb od F i (zix od F n (0 + j)) = true
      rw [Nat.zero_add]
      have z := lx j p hj hpn
      rw [hpi] at z
      exact decide_eq_true (by omega)
    · show zrb od F i (zix od F n (0 + j)) = false
      rw [Nat.zero_add]
      refine decide_eq_false ?_
      by_cases e : j = p
      · rw [e, hpi]; omega
      · have z := lx p j (by omega) h2
        rw [hpi] at z
        omega
  rw [hc]
  exact ⟨hpn, hpi⟩
/-- the reference's work, its size aside -/
def mV (X : YS) (f : Nat → Int64 × Int32) : YS := sI (sL X 28 (fun j => (f j).1)) 29 (fun j => (f j).2)
theorem mV_L (X : YS) (f : Nat → Int64 × Int32) {c : Nat} (h : c ≠ 28) : gL (mV X f) c = gL X c := by
  show gL (sL X 28 _) c = _
  rw [gL_sL, if_neg h]
theorem mV_I (X : YS) (f : Nat → Int64 × Int32) {c : Nat} (h : c ≠ 29) : gI (mV X f) c = gI X c := by
  unfold mV
  rw [gI_sI, if_neg h, gI_sL]
theorem mV_put (X : YS) (f : Nat → Int64 × Int32) (j : Nat) (a : Int64) (t : Int32) : sI (sL (mV X f) 28 (vp_updL (gL (mV X f) 28) j a)) 29 (upd (gI (sL (mV X f) 28 (vp_updL (gL (mV X f) 28) j a)) 29) j t) = mV X (va_up f j (a, t)) := by
  have h1 : gL (mV X f) 28 = fun j => (f j).1 := by unfold mV; rw [gL_sI, gL_same]
  have h2 : gI (sL (mV X f) 28 (vp_updL (gL (mV X f) 28) j a)) 29 = fun j => (f j).2 := gI_same _ 29 _
  rw [h2, h1]
  refine YS_ext (fun c => ?_) (fun c => ?_) (fun c k => rfl)
  · show gL (sL (sL X 28 _) 28 _) c = gL (sL X 28 _) c
    simp only [gL_sL]
    split
    · funext i; unfold vp_updL va_up; split <;> rfl
    · rfl
  · show gI (sI (sI (sL X 28 _) 29 _) 29 _) c = gI (sI (sL X 28 _) 29 _) c
    simp only [gI_sI, gI_sL]
    split
    · funext i; unfold upd va_up; split <;> rfl
    · rfl
theorem mV_self (X : YS) : mV X (fun j => (gL X 28 j, gI X 29 j)) = X := by
  refine YS_ext (fun c => ?_) (fun c => ?_) (fun c k => rfl)
  · show gL (sL X 28 (gL X 28)) c = _
    rw [gL_sL]
    split
    · rename_i h; rw [h]
    · rfl
  · show gI (sI (sL X 28 (gL X 28)) 29 (gI X 29)) c = _
    rw [gI_sI]
    split
    · rename_i h; rw [h]
    · rfl
set_option maxHeartbeats 4000000 in
set_option maxRecDepth 100000 in
theorem ct_M_front (l : Launch) (g : YG) (S : YS) (k n : Nat) (hk : k < 4) (hn : n ≤ 1024) (hc : gI S 27 k = nI n) (od m : Nat) (ho : od < 8) (hm2 : m ≤ n) : yC l mn_M_front mb_M_front 8 none 4 g [.ref (g.ad (24)), .int (nI (k)), .int (nI (od)), .int (nI (m))] S (fun v S' => ∃ (f : Nat → Int64 × Int32) (K : Nat → Int64) (T : Nat → Int32), v = none ∧ S' = sI (mK (mW (yx S 0) f n) K T) 27 (upd (gI S 27) k (nI n)) ∧ zs f 0 n = (zs (zix od (ze4 S k) n) 0 m).map (ze4 S k) ++ (zuf (zix od (ze4 S k) n) m n).map (ze4 S k) ∧ (∀ j, j < n → K (1024 * k + j) = (f j).1 ∧ T (1024 * k + j) = (f j).2) ∧ (∀ j, j < 1024 * k ∨ 1024 * k + n ≤ j → K j = gL S 25 j ∧ T j = gI S 26 j)) := by
  refine yC_of (by decide) (Nat.le_of_ble_eq_true rfl) ?_
  intro o hl hg hB0 hE
  subst hl
  subst hg
  have hB : yB o mb_M_front "OrderBenchModel" := hB0
  have hm := hE.1
  show yW o (S) 0 [(0, .ref (o.G.ad (24))), (1, .int (nI (k))), (2, .int (nI (od))), (3, .int (nI (m)))] []
  refine y_aload_n (pc' := 1) hB dc_M_front_0 rfl rfl 0 rfl ?_
  refine y_iload_n (pc' := 2) hB dc_M_front_1 rfl rfl 1 rfl ?_
  refine y_callV (c := 24) (ci := 4) (As := [.int (nI (k))]) (rest := []) (pc' := 5) hB hE (ct_M_noRow o.l o.G S (nI k) (zgr_of hk)) mm_M_noRow q_672 q_674 qs_12 (by decide) rfl rfl dc_M_front_2 rfl (by decide) rfl rfl (Nat.le_of_ble_eq_true rfl) (fun v S' hpost => ?_)
  obtain ⟨rfl, hSS⟩ := hpost
  rw [hSS]
  clear hSS S'
  show yW o (yx S 0) 5 [(0, .ref (o.G.ad (24))), (1, .int (nI (k))), (2, .int (nI (od))), (3, .int (nI (m)))] [.int (0)]
  refine y_if_ne (x := 0) (pc' := 8) (tg := 16) hB dc_M_front_5 rfl rfl (fun b1 => ?_) (fun b1 => ?_)
  · exact absurd rfl b1
  · refine y_aload_n (pc' := 9) hB dc_M_front_8 rfl rfl 0 rfl ?_
    refine y_iload_n (pc' := 10) hB dc_M_front_9 rfl rfl 2 rfl ?_
    refine y_callV (c := 24) (ci := 4) (As := [.int (nI (od))]) (rest := []) (pc' := 13) hB hE (ct_M_noOrder o.l o.G (yx S 0) (nI od) (zgo_of ho)) mm_M_noOrder q_720 q_722 qs_14 (by decide) rfl rfl dc_M_front_10 rfl (by decide) rfl rfl (Nat.le_of_ble_eq_true rfl) (fun v S' hpost => ?_)
    obtain ⟨rfl, hSS⟩ := hpost
    rw [hSS]
    clear hSS S'
    show yW o (yx (yx S 0) 0) 13 [(0, .ref (o.G.ad (24))), (1, .int (nI (k))), (2, .int (nI (od))), (3, .int (nI (m)))] [.int (0)]
    rw [yx_yx]
    refine y_if_eq (x := 0) (pc' := 16) (tg := 17) hB dc_M_front_13 rfl rfl (fun b2 => ?_) (fun b2 => ?_)
    · refine y_aload_n (pc' := 18) hB dc_M_front_17 rfl rfl 0 rfl ?_
      refine y_iload_n (pc' := 19) hB dc_M_front_18 rfl rfl 3 rfl ?_
      refine n_if_lt (pc' := 22) (tg := 32) hB dc_M_front_19 rfl rfl (by omega) ?_
      refine y_iload_n (pc' := 23) hB dc_M_front_22 rfl rfl 3 rfl ?_
      refine y_aload_n (pc' := 24) hB dc_M_front_23 rfl rfl 0 rfl ?_
      refine f_M_sizes (pc' := 27) hB dc_M_front_24 rfl q_642 ?_
      refine y_iload_n (pc' := 28) hB dc_M_front_27 rfl rfl 1 rfl ?_
      refine y_iald (c := 27) (n := 4) (j := k) (pc' := 29) hB dc_M_front_28 rfl (by decide) rfl (by omega) (by decide) ?_
      refine y_topi (y := nI (n)) (hc) ?_
      refine n_icmp_le (pc' := 32) (tg := 36) hB dc_M_front_29 rfl rfl (by omega) (by omega) (fun b4 => ?_) (fun b4 => ?_)
      · refine y_iconst (v := nI 0) (pc' := 37) hB dc_M_front_36 rfl rfl ?_
        refine p_M_code (pc' := 40) hB dc_M_front_37 rfl q_639 ?_
        show yW o (yx (yx S 0) 0) 40 [(0, .ref (o.G.ad (24))), (1, .int (nI (k))), (2, .int (nI (od))), (3, .int (nI (m)))] []
        rw [yx_yx]
        refine y_aload_n (pc' := 41) hB dc_M_front_40 rfl rfl 0 rfl ?_
        refine f_M_code (pc' := 44) hB dc_M_front_41 rfl q_639 ?_
        refine y_topi (y := nI (0)) (yx_c S 0) ?_
        refine n_if_le (pc' := 47) (tg := 48) hB dc_M_front_44 rfl rfl (by omega) (fun b5 => ?_) (fun b5 => ?_)
        · refine y_iload_n (pc' := 49) hB dc_M_front_48 rfl rfl 3 rfl ?_
          refine y_istore (pc' := 51) (lv' := [(4, .int (nI (m))), (0, .ref (o.G.ad (24))), (1, .int (nI (k))), (2, .int (nI (od))), (3, .int (nI (m)))]) hB hm dc_M_front_49 rfl (by decide) rfl ?_
          refine y_iconst (v := nI 0) (pc' := 52) hB dc_M_front_51 rfl rfl ?_
          refine y_istore (pc' := 54) (lv' := [(5, .int (nI (0))), (4, .int (nI (m))), (0, .ref (o.G.ad (24))), (1, .int (nI (k))), (2, .int (nI (od))), (3, .int (nI (m)))]) hB hm dc_M_front_52 rfl (by decide) rfl ?_
          obtain ⟨ix, hix⟩ : ∃ z, z = zix od (ze4 S k) n := ⟨_, rfl⟩
          have loop : ∀ (d : Nat) (i h : Nat) (f1 : Nat → Int64 × Int32), n - i < d → i ≤ n → h = m + (zuf ix m i).length → (∀ j, j < m → ix j < i → f1 j = (ze4 S k) (ix j)) → zs f1 m (zuf ix m i).length = (zuf ix m i).map (ze4 S k) → yW o (mV (yx S 0) f1) 54 [(5, .int (nI (i))), (4, .int (nI (h))), (0, .ref (o.G.ad (24))), (1, .int (nI (k))), (2, .int (nI (od))), (3, .int (nI (m)))] [] := by
            intro d
            induction d with
            | zero => intro i h f1 hd; omega
            | succ d ih =>
              intro i h f1 hd h1 h2 h3 h4
              have hl : ∀ q, q ≤ n → (zuf ix m q).length ≤ n - m := fun q hq => by rw [← zuf_len (I := ix) hm2 (by rw [hix]; exact zix_perm od _ n)]; exact zuf_le ix m hq
              refine y_iload (pc' := 56) hB dc_M_front_54 rfl 0 rfl ?_
              refine y_aload_n (pc' := 57) hB dc_M_front_56 rfl rfl 2 rfl ?_
              refine f_M_sizes (pc' := 60) hB dc_M_front_57 rfl q_642 ?_
              refine y_iload_n (pc' := 61) hB dc_M_front_60 rfl rfl 3 rfl ?_
              refine y_iald (c := 27) (n := 4) (j := k) (pc' := 62) hB dc_M_front_61 rfl (by decide) rfl (by omega) (by decide) ?_
              refine y_topi (y := nI (n)) (by rw [mV_I _ _ (by decide)]; exact hc) ?_
              refine n_icmp_ge (pc' := 65) (tg := 153) hB dc_M_front_62 rfl rfl (by omega) (by omega) (fun b6 => ?_) (fun b6 => ?_)
              · have e : i = n := by omega
                subst e
                refine y_aload_n (pc' := 154) hB dc_M_front_153 rfl rfl 2 rfl ?_
                refine y_aload_n (pc' := 155) hB dc_M_front_154 rfl rfl 2 rfl ?_
                refine f_M_sizes (pc' := 158) hB dc_M_front_155 rfl q_642 ?_
                refine y_iload_n (pc' := 159) hB dc_M_front_158 rfl rfl 3 rfl ?_
                refine y_iald (c := 27) (n := 4) (j := k) (pc' := 160) hB dc_M_front_159 rfl (by decide) rfl (by omega) (by decide) ?_
                refine y_topi (y := nI (i)) (by rw [mV_I _ _ (by decide)]; exact hc) ?_
                refine p_M_workSize (pc' := 163) hB dc_M_front_160 rfl q_645 ?_
                show yW o (mW (yx S 0) f1 i) 163 [(5, .int (nI (i))), (4, .int (nI (h))), (0, .ref (o.G.ad (24))), (1, .int (nI (k))), (2, .int (nI (od))), (3, .int (nI (m)))] []
                refine y_aload_n (pc' := 164) hB dc_M_front_163 rfl rfl 2 rfl ?_
                refine y_iload_n (pc' := 165) hB dc_M_front_164 rfl rfl 3 rfl ?_
                refine y_callV (c := 24) (ci := 4) (As := [.int (nI (k))]) (rest := []) (pc' := 168) hB hE (ct_M_give o.l o.G (yx S 0) k i hk hn f1) mm_M_give q_757 q_759 qs_19 (by decide) rfl rfl dc_M_front_165 rfl (by decide) rfl rfl (Nat.le_of_ble_eq_true rfl) (fun v S' hpost => ?_)
                obtain ⟨K, T, rfl, rfl, g1, g2⟩ := hpost
                show yW o (sI (mK (mW (yx S 0) f1 i) K T) 27 (upd (gI (yx S 0) 27) k (nI i))) 168 [(5, .int (nI (i))), (4, .int (nI (h))), (0, .ref (o.G.ad (24))), (1, .int (nI (k))), (2, .int (nI (od))), (3, .int (nI (m)))] []
                refine y_vret hB hE dc_M_front_168 ⟨f1, K, T, rfl, rfl, ?_, g1, g2⟩
                rw [← hix]
                have e9 : i = m + (i - m) := by omega
                have hzl := zuf_len (I := ix) (n := i) hm2 (by rw [hix]; exact zix_perm od _ i)
                rw [← h4, hzl]
                conv => lhs; rw [e9]
                rw [zs_add, Nat.zero_add]
                refine congrArg (· ++ _) ?_
                have hlt : ∀ j, j < m → ix j < i := fun j hj => by
                  have z : ix j ∈ zs ix 0 i := zs_mem.mpr ⟨j, by omega, by rw [Nat.zero_add]⟩
                  rw [hix] at z
                  rw [hix]
                  exact List.mem_range.mp ((zix_perm od _ i).mem_iff.mp z)
                unfold zs
                rw [List.map_map]
                refine List.map_congr_left (fun j hj => ?_)
                rw [Nat.zero_add]
                show f1 j = (ze4 S k) (ix (0 + j))
                rw [Nat.zero_add]
                exact h3 j (List.mem_range.mp hj) (hlt j (List.mem_range.mp hj))
              · refine y_aload_n (pc' := 66) hB dc_M_front_65 rfl rfl 2 rfl ?_
                refine y_iload_n (pc' := 67) hB dc_M_front_66 rfl rfl 3 rfl ?_
                refine y_iload_n (pc' := 68) hB dc_M_front_67 rfl rfl 4 rfl ?_
                refine y_iload (pc' := 70) hB dc_M_front_68 rfl 0 rfl ?_
                obtain ⟨rk, hrk⟩ : ∃ z, z = zfn (zrb od (ze4 S k) i) n := ⟨_, rfl⟩
                have hr1 : rk < n ∧ ix rk = i := by rw [hrk, hix]; exact zix_rank b6
                refine y_callV (c := 24) (ci := 4) (As := [.int (nI (k)), .int (nI (od)), .int (nI (i))]) (rest := []) (pc' := 73) hB hE (ct_M_rankOf o.l o.G (mV (yx S 0) f1) k n hk hn (by rw [mV_I _ _ (by decide)]; exact hc) od ho i b6) mm_M_rankOf q_812 q_814 qs_22 (by decide) rfl rfl dc_M_front_70 rfl (by decide) rfl rfl (Nat.le_of_ble_eq_true rfl) (fun v S' hpost => ?_)
                obtain ⟨rfl, hSS⟩ := hpost
                rw [hSS]
                clear hSS S'
                show yW o (mV (yx S 0) f1) 73 [(5, .int (nI (i))), (4, .int (nI (h))), (0, .ref (o.G.ad (24))), (1, .int (nI (k))), (2, .int (nI (od))), (3, .int (nI (m)))] [.int (nI (zfn (zrb od (ze4 (mV (yx S 0) f1) k) i) n))]
                have hz4 : ze4 (mV (yx S 0) f1) k = (ze4 S k) := by funext j; unfold ze4; rw [mV_L _ _ (by decide), mV_I _ _ (by decide)]; rfl
                rw [hz4, ← hrk]
                show yW o (mV (yx S 0) f1) 73 [(5, .int (nI (i))), (4, .int (nI (h))), (0, .ref (o.G.ad (24))), (1, .int (nI (k))), (2, .int (nI (od))), (3, .int (nI (m)))] [.int (nI (rk))]
                refine y_istore (pc' := 75) (lv' := [(6, .int (nI (rk))), (5, .int (nI (i))), (4, .int (nI (h))), (0, .ref (o.G.ad (24))), (1, .int (nI (k))), (2, .int (nI (od))), (3, .int (nI (m)))]) hB hm dc_M_front_73 rfl (by decide) rfl ?_
                refine y_iload (pc' := 77) hB dc_M_front_75 rfl 0 rfl ?_
                refine y_iload_n (pc' := 78) hB dc_M_front_77 rfl rfl 6 rfl ?_
                refine n_icmp_ge (pc' := 81) (tg := 86) hB dc_M_front_78 rfl rfl (by omega) (by omega) (fun b7 => ?_) (fun b7 => ?_)
                · have hb1 := hl (i + 1) b6
                  have hni : i ∉ zs ix 0 m := fun z => by
                    obtain ⟨j, z1, z2⟩ := zs_mem.mp z
                    rw [Nat.zero_add, ← hr1.2, hix] at z2
                    have := zix_inj (by omega) hr1.1 z2
                    omega
                  rw [zuf_s, if_neg hni, List.length_append] at hb1
                  have hb2 : (zuf ix m i).length + 1 ≤ n - m := hb1
                  refine y_iload (pc' := 88) hB dc_M_front_86 rfl 2 rfl ?_
                  refine y_istore (pc' := 90) (lv' := [(7, .int (nI (h))), (6, .int (nI (rk))), (5, .int (nI (i))), (4, .int (nI (h))), (0, .ref (o.G.ad (24))), (1, .int (nI (k))), (2, .int (nI (od))), (3, .int (nI (m)))]) hB hm dc_M_front_88 rfl (by decide) rfl ?_
                  refine y_iload (pc' := 92) hB dc_M_front_90 rfl 1 rfl ?_
                  refine y_iload_n (pc' := 93) hB dc_M_front_92 rfl rfl 7 rfl ?_
                  refine n_icmp_ge (pc' := 96) (tg := 101) hB dc_M_front_93 rfl rfl (by omega) (by omega) (fun b8 => ?_) (fun b8 => ?_)
                  · refine y_iload (pc' := 103) hB dc_M_front_101 rfl 3 rfl ?_
                    refine y_iconst (v := nI 1) (pc' := 104) hB dc_M_front_103 rfl rfl ?_
                    refine n_iadd (x := h) (y := 1) (pc' := 105) hB dc_M_front_104 rfl ?_
                    refine y_istore (pc' := 107) (lv' := [(4, .int (nI (h + 1))), (7, .int (nI (h))), (6, .int (nI (rk))), (5, .int (nI (i))), (0, .ref (o.G.ad (24))), (1, .int (nI (k))), (2, .int (nI (od))), (3, .int (nI (m)))]) hB hm dc_M_front_105 rfl (by decide) rfl ?_
                    refine y_aload_n (pc' := 108) hB dc_M_front_107 rfl rfl 4 rfl ?_
                    refine f_M_workKeys (pc' := 111) hB dc_M_front_108 rfl q_643 ?_
                    refine y_iload (pc' := 113) hB dc_M_front_111 rfl 1 rfl ?_
                    refine y_aload_n (pc' := 114) hB dc_M_front_113 rfl rfl 4 rfl ?_
                    refine f_M_keys (pc' := 117) hB dc_M_front_114 rfl q_640 ?_
                    refine y_sipush (v := nI 1024) (pc' := 120) hB dc_M_front_117 rfl (by decide) ?_
                    refine y_iload_n (pc' := 121) hB dc_M_front_120 rfl rfl 5 rfl ?_
                    refine n_imul (x := 1024) (y := k) (pc' := 122) hB dc_M_front_121 rfl ?_
                    refine y_iload (pc' := 124) hB dc_M_front_122 rfl 3 rfl ?_
                    refine n_iadd (x := 1024 * k) (y := i) (pc' := 125) hB dc_M_front_124 rfl ?_
                    refine y_lald (c := 25) (n := 4096) (j := (1024 * k) + i) (pc' := 126) hB dc_M_front_125 rfl (by decide) rfl (by omega) (by decide) ?_
                    refine y_topl (y := ((ze4 S k) i).1) (by rw [mV_L _ _ (by decide)]; rfl) ?_
                    refine y_last (c := 28) (n := 2048) (j := h) (pc' := 127) hB dc_M_front_126 rfl (by decide) rfl (by omega) (by decide) ?_
                    refine y_aload_n (pc' := 128) hB dc_M_front_127 rfl rfl 4 rfl ?_
                    refine f_M_workTags (pc' := 131) hB dc_M_front_128 rfl q_644 ?_
                    refine y_iload (pc' := 133) hB dc_M_front_131 rfl 1 rfl ?_
                    refine y_aload_n (pc' := 134) hB dc_M_front_133 rfl rfl 4 rfl ?_
                    refine f_M_tags (pc' := 137) hB dc_M_front_134 rfl q_641 ?_
                    refine y_sipush (v := nI 1024) (pc' := 140) hB dc_M_front_137 rfl (by decide) ?_
                    refine y_iload_n (pc' := 141) hB dc_M_front_140 rfl rfl 5 rfl ?_
                    refine n_imul (x := 1024) (y := k) (pc' := 142) hB dc_M_front_141 rfl ?_
                    refine y_iload (pc' := 144) hB dc_M_front_142 rfl 3 rfl ?_
                    refine n_iadd (x := 1024 * k) (y := i) (pc' := 145) hB dc_M_front_144 rfl ?_
                    refine y_iald (c := 26) (n := 4096) (j := (1024 * k) + i) (pc' := 146) hB dc_M_front_145 rfl (by decide) rfl (by omega) (by decide) ?_
                    refine y_topi (y := ((ze4 S k) i).2) (by rw [gI_sL, mV_I _ _ (by decide)]; rfl) ?_
                    refine y_iast (c := 29) (n := 2048) (j := h) (pc' := 147) hB dc_M_front_146 rfl (by decide) rfl (by omega) (by decide) ?_
                    rw [mV_put]
                    show yW o (mV (yx S 0) (va_up f1 (h) ((ze4 S k) i))) 147 [(4, .int (nI (h + 1))), (7, .int (nI (h))), (6, .int (nI (rk))), (5, .int (nI (i))), (0, .ref (o.G.ad (24))), (1, .int (nI (k))), (2, .int (nI (od))), (3, .int (nI (m)))] []
                    refine n_inc (q := 3) (z := 1) (pc' := 150) (lv' := [(5, .int (nI (i + 1))), (4, .int (nI (h + 1))), (7, .int (nI (h))), (6, .int (nI (rk))), (0, .ref (o.G.ad (24))), (1, .int (nI (k))), (2, .int (nI (od))), (3, .int (nI (m)))]) hB hm dc_M_front_147 rfl rfl (by decide) rfl ?_
                    refine y_goto (tg := 54) hB dc_M_front_150 rfl ?_
                    refine y_sub [0, 1, 4, 5, 6, 7] rfl ?_
                    have hni : i ∉ zs ix 0 m := fun z => by
                      obtain ⟨j, z1, z2⟩ := zs_mem.mp z
                      rw [Nat.zero_add, ← hr1.2, hix] at z2
                      have := zix_inj (by omega) hr1.1 z2
                      omega
                    have hzu : zuf ix m (i + 1) = zuf ix m i ++ [i] := by rw [zuf_s, if_neg hni]
                    have hll : (zuf ix m (i + 1)).length = (zuf ix m i).length + 1 := by rw [hzu, List.length_append]; rfl
                    refine ih (i + 1) (h + 1) _ (by omega) b6 (by rw [hll]; omega) (fun j hj hj2 => ?_) ?_
                    · unfold va_up
                      rw [if_neg (by omega)]
                      have hne : ix j ≠ i := fun z => by
                        rw [← hr1.2, hix] at z
                        have := zix_inj (by omega) hr1.1 z
                        omega
                      exact h3 j hj (by omega)
                    · rw [hll, zs_succ, hzu, List.map_append, ← h4]
                      have e1 : zs (va_up f1 h (ze4 S k i)) m (zuf ix m i).length = zs f1 m (zuf ix m i).length := zs_congr (fun j hj => by unfold va_up; rw [if_neg (by omega)])
                      rw [e1]
                      unfold va_up
                      rw [if_pos (by omega)]
                      rfl
                  · omega
                · refine y_iload (pc' := 83) hB dc_M_front_81 rfl 0 rfl ?_
                  refine y_goto (tg := 88) hB dc_M_front_83 rfl ?_
                  refine y_istore (pc' := 90) (lv' := [(7, .int (nI (rk))), (6, .int (nI (rk))), (5, .int (nI (i))), (4, .int (nI (h))), (0, .ref (o.G.ad (24))), (1, .int (nI (k))), (2, .int (nI (od))), (3, .int (nI (m)))]) hB hm dc_M_front_88 rfl (by decide) rfl ?_
                  refine y_iload (pc' := 92) hB dc_M_front_90 rfl 1 rfl ?_
                  refine y_iload_n (pc' := 93) hB dc_M_front_92 rfl rfl 7 rfl ?_
                  refine n_icmp_ge (pc' := 96) (tg := 101) hB dc_M_front_93 rfl rfl (by omega) (by omega) (fun b8 => ?_) (fun b8 => ?_)
                  · omega
                  · refine y_iload (pc' := 98) hB dc_M_front_96 rfl 3 rfl ?_
                    refine y_goto (tg := 105) hB dc_M_front_98 rfl ?_
                    refine y_istore (pc' := 107) (lv' := [(4, .int (nI (h))), (7, .int (nI (rk))), (6, .int (nI (rk))), (5, .int (nI (i))), (0, .ref (o.G.ad (24))), (1, .int (nI (k))), (2, .int (nI (od))), (3, .int (nI (m)))]) hB hm dc_M_front_105 rfl (by decide) rfl ?_
                    refine y_aload_n (pc' := 108) hB dc_M_front_107 rfl rfl 4 rfl ?_
                    refine f_M_workKeys (pc' := 111) hB dc_M_front_108 rfl q_643 ?_
                    refine y_iload (pc' := 113) hB dc_M_front_111 rfl 1 rfl ?_
                    refine y_aload_n (pc' := 114) hB dc_M_front_113 rfl rfl 4 rfl ?_
                    refine f_M_keys (pc' := 117) hB dc_M_front_114 rfl q_640 ?_
                    refine y_sipush (v := nI 1024) (pc' := 120) hB dc_M_front_117 rfl (by decide) ?_
                    refine y_iload_n (pc' := 121) hB dc_M_front_120 rfl rfl 5 rfl ?_
                    refine n_imul (x := 1024) (y := k) (pc' := 122) hB dc_M_front_121 rfl ?_
                    refine y_iload (pc' := 124) hB dc_M_front_122 rfl 3 rfl ?_
                    refine n_iadd (x := 1024 * k) (y := i) (pc' := 125) hB dc_M_front_124 rfl ?_
                    refine y_lald (c := 25) (n := 4096) (j := (1024 * k) + i) (pc' := 126) hB dc_M_front_125 rfl (by decide) rfl (by omega) (by decide) ?_
                    refine y_topl (y := ((ze4 S k) i).1) (by rw [mV_L _ _ (by decide)]; rfl) ?_
                    refine y_last (c := 28) (n := 2048) (j := rk) (pc' := 127) hB dc_M_front_126 rfl (by decide) rfl (by omega) (by decide) ?_
                    refine y_aload_n (pc' := 128) hB dc_M_front_127 rfl rfl 4 rfl ?_
                    refine f_M_workTags (pc' := 131) hB dc_M_front_128 rfl q_644 ?_
                    refine y_iload (pc' := 133) hB dc_M_front_131 rfl 1 rfl ?_
                    refine y_aload_n (pc' := 134) hB dc_M_front_133 rfl rfl 4 rfl ?_
                    refine f_M_tags (pc' := 137) hB dc_M_front_134 rfl q_641 ?_
                    refine y_sipush (v := nI 1024) (pc' := 140) hB dc_M_front_137 rfl (by decide) ?_
                    refine y_iload_n (pc' := 141) hB dc_M_front_140 rfl rfl 5 rfl ?_
                    refine n_imul (x := 1024) (y := k) (pc' := 142) hB dc_M_front_141 rfl ?_
                    refine y_iload (pc' := 144) hB dc_M_front_142 rfl 3 rfl ?_
                    refine n_iadd (x := 1024 * k) (y := i) (pc' := 145) hB dc_M_front_144 rfl ?_
                    refine y_iald (c := 26) (n := 4096) (j := (1024 * k) + i) (pc' := 146) hB dc_M_front_145 rfl (by decide) rfl (by omega) (by decide) ?_
                    refine y_topi (y := ((ze4 S k) i).2) (by rw [gI_sL, mV_I _ _ (by decide)]; rfl) ?_
                    refine y_iast (c := 29) (n := 2048) (j := rk) (pc' := 147) hB dc_M_front_146 rfl (by decide) rfl (by omega) (by decide) ?_
                    rw [mV_put]
                    show yW o (mV (yx S 0) (va_up f1 (rk) ((ze4 S k) i))) 147 [(4, .int (nI (h))), (7, .int (nI (rk))), (6, .int (nI (rk))), (5, .int (nI (i))), (0, .ref (o.G.ad (24))), (1, .int (nI (k))), (2, .int (nI (od))), (3, .int (nI (m)))] []
                    refine n_inc (q := 3) (z := 1) (pc' := 150) (lv' := [(5, .int (nI (i + 1))), (4, .int (nI (h))), (7, .int (nI (rk))), (6, .int (nI (rk))), (0, .ref (o.G.ad (24))), (1, .int (nI (k))), (2, .int (nI (od))), (3, .int (nI (m)))]) hB hm dc_M_front_147 rfl rfl (by decide) rfl ?_
                    refine y_goto (tg := 54) hB dc_M_front_150 rfl ?_
                    refine y_sub [0, 1, 4, 5, 6, 7] rfl ?_
                    have hin : i ∈ zs ix 0 m := zs_mem.mpr ⟨rk, b7, by rw [Nat.zero_add]; exact hr1.2⟩
                    have hzu : zuf ix m (i + 1) = zuf ix m i := by rw [zuf_s, if_pos hin]
                    refine ih (i + 1) h _ (by omega) b6 (by rw [hzu]; exact h2) (fun j hj hj2 => ?_) ?_
                    · unfold va_up
                      by_cases e : j = rk
                      · rw [if_pos e, e, hr1.2]
                      · rw [if_neg e]
                        have hne : ix j ≠ i := fun z => e (by rw [← hr1.2, hix] at z; exact zix_inj (by omega) hr1.1 z)
                        exact h3 j hj (by omega)
                    · rw [hzu, ← h4]
                      refine zs_congr (fun j hj => ?_)
                      unfold va_up
                      rw [if_neg (by omega)]
          have h0 := loop (n + 1) 0 m (fun j => (gL (yx S 0) 28 j, gI (yx S 0) 29 j)) (by omega) (by omega) rfl (fun j _ z => absurd z (by omega)) rfl
          rw [mV_self] at h0
          exact h0
        · omega
      · omega
    · exact absurd rfl b2
