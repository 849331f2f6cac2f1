/-! BENCH: bringing to the front -/
theorem dc_B_bringToFront_0 : decode mb_B_bringToFront 0 = .ok (.aload_n 0, 1) := by decide +kernel
theorem dc_B_bringToFront_1 : decode mb_B_bringToFront 1 = .ok (.getfield 20, 3) := by decide +kernel
theorem dc_B_bringToFront_4 : decode mb_B_bringToFront 4 = .ok (.getfield 103, 3) := by decide +kernel
theorem dc_B_bringToFront_7 : decode mb_B_bringToFront 7 = .ok (.iconst 0, 1) := by decide +kernel
theorem dc_B_bringToFront_8 : decode mb_B_bringToFront 8 = .ok (.invokestatic 238, 3) := by decide +kernel
theorem dc_B_bringToFront_11 : decode mb_B_bringToFront 11 = .ok (.iconst 0, 1) := by decide +kernel
theorem dc_B_bringToFront_12 : decode mb_B_bringToFront 12 = .ok (.istore_n 3, 1) := by decide +kernel
theorem dc_B_bringToFront_13 : decode mb_B_bringToFront 13 = .ok (.iload_n 3, 1) := by decide +kernel
theorem dc_B_bringToFront_14 : decode mb_B_bringToFront 14 = .ok (.iload_n 2, 1) := by decide +kernel
theorem dc_B_bringToFront_15 : decode mb_B_bringToFront 15 = .ok (.if_icmp .ge 47, 3) := by decide +kernel
theorem dc_B_bringToFront_18 : decode mb_B_bringToFront 18 = .ok (.aload_n 0, 1) := by decide +kernel
theorem dc_B_bringToFront_19 : decode mb_B_bringToFront 19 = .ok (.getfield 16, 3) := by decide +kernel
theorem dc_B_bringToFront_22 : decode mb_B_bringToFront 22 = .ok (.getfield 103, 3) := by decide +kernel
theorem dc_B_bringToFront_25 : decode mb_B_bringToFront 25 = .ok (.iload_n 3, 1) := by decide +kernel
theorem dc_B_bringToFront_26 : decode mb_B_bringToFront 26 = .ok (.iaload, 1) := by decide +kernel
theorem dc_B_bringToFront_27 : decode mb_B_bringToFront 27 = .ok (.istore 4, 2) := by decide +kernel
theorem dc_B_bringToFront_29 : decode mb_B_bringToFront 29 = .ok (.aload_n 0, 1) := by decide +kernel
theorem dc_B_bringToFront_30 : decode mb_B_bringToFront 30 = .ok (.getfield 20, 3) := by decide +kernel
theorem dc_B_bringToFront_33 : decode mb_B_bringToFront 33 = .ok (.getfield 103, 3) := by decide +kernel
theorem dc_B_bringToFront_36 : decode mb_B_bringToFront 36 = .ok (.iload 4, 2) := by decide +kernel
theorem dc_B_bringToFront_38 : decode mb_B_bringToFront 38 = .ok (.iconst 1, 1) := by decide +kernel
theorem dc_B_bringToFront_39 : decode mb_B_bringToFront 39 = .ok (.iastore, 1) := by decide +kernel
theorem dc_B_bringToFront_40 : decode mb_B_bringToFront 40 = .ok (.aload_n 0, 1) := by decide +kernel
theorem dc_B_bringToFront_41 : decode mb_B_bringToFront 41 = .ok (.getfield 16, 3) := by decide +kernel
theorem dc_B_bringToFront_44 : decode mb_B_bringToFront 44 = .ok (.getfield 103, 3) := by decide +kernel
theorem dc_B_bringToFront_47 : decode mb_B_bringToFront 47 = .ok (.iload_n 3, 1) := by decide +kernel
theorem dc_B_bringToFront_48 : decode mb_B_bringToFront 48 = .ok (.aload_n 1, 1) := by decide +kernel
theorem dc_B_bringToFront_49 : decode mb_B_bringToFront 49 = .ok (.getfield 103, 3) := by decide +kernel
theorem dc_B_bringToFront_52 : decode mb_B_bringToFront 52 = .ok (.iload 4, 2) := by decide +kernel
theorem dc_B_bringToFront_54 : decode mb_B_bringToFront 54 = .ok (.iaload, 1) := by decide +kernel
theorem dc_B_bringToFront_55 : decode mb_B_bringToFront 55 = .ok (.iastore, 1) := by decide +kernel
theorem dc_B_bringToFront_56 : decode mb_B_bringToFront 56 = .ok (.iinc 3 1, 3) := by decide +kernel
theorem dc_B_bringToFront_59 : decode mb_B_bringToFront 59 = .ok (.goto (-46), 3) := by decide +kernel
theorem dc_B_bringToFront_62 : decode mb_B_bringToFront 62 = .ok (.iload_n 2, 1) := by decide +kernel
theorem dc_B_bringToFront_63 : decode mb_B_bringToFront 63 = .ok (.istore_n 3, 1) := by decide +kernel
theorem dc_B_bringToFront_64 : decode mb_B_bringToFront 64 = .ok (.iconst 0, 1) := by decide +kernel
theorem dc_B_bringToFront_65 : decode mb_B_bringToFront 65 = .ok (.istore 4, 2) := by decide +kernel
theorem dc_B_bringToFront_67 : decode mb_B_bringToFront 67 = .ok (.iload 4, 2) := by decide +kernel
theorem dc_B_bringToFront_69 : decode mb_B_bringToFront 69 = .ok (.aload_n 1, 1) := by decide +kernel
theorem dc_B_bringToFront_70 : decode mb_B_bringToFront 70 = .ok (.getfield 53, 3) := by decide +kernel
theorem dc_B_bringToFront_73 : decode mb_B_bringToFront 73 = .ok (.if_icmp .ge 36, 3) := by decide +kernel
theorem dc_B_bringToFront_76 : decode mb_B_bringToFront 76 = .ok (.aload_n 0, 1) := by decide +kernel
theorem dc_B_bringToFront_77 : decode mb_B_bringToFront 77 = .ok (.getfield 20, 3) := by decide +kernel
theorem dc_B_bringToFront_80 : decode mb_B_bringToFront 80 = .ok (.getfield 103, 3) := by decide +kernel
theorem dc_B_bringToFront_83 : decode mb_B_bringToFront 83 = .ok (.iload 4, 2) := by decide +kernel
theorem dc_B_bringToFront_85 : decode mb_B_bringToFront 85 = .ok (.iaload, 1) := by decide +kernel
theorem dc_B_bringToFront_86 : decode mb_B_bringToFront 86 = .ok (.ifCond .ne 17, 3) := by decide +kernel
theorem dc_B_bringToFront_89 : decode mb_B_bringToFront 89 = .ok (.aload_n 0, 1) := by decide +kernel
theorem dc_B_bringToFront_90 : decode mb_B_bringToFront 90 = .ok (.getfield 16, 3) := by decide +kernel
theorem dc_B_bringToFront_93 : decode mb_B_bringToFront 93 = .ok (.iload_n 3, 1) := by decide +kernel
theorem dc_B_bringToFront_94 : decode mb_B_bringToFront 94 = .ok (.aload_n 1, 1) := by decide +kernel
theorem dc_B_bringToFront_95 : decode mb_B_bringToFront 95 = .ok (.iload 4, 2) := by decide +kernel
theorem dc_B_bringToFront_97 : decode mb_B_bringToFront 97 = .ok (.invokevirtual 178, 3) := by decide +kernel
theorem dc_B_bringToFront_100 : decode mb_B_bringToFront 100 = .ok (.iinc 3 1, 3) := by decide +kernel
theorem dc_B_bringToFront_103 : decode mb_B_bringToFront 103 = .ok (.iinc 4 1, 3) := by decide +kernel
theorem dc_B_bringToFront_106 : decode mb_B_bringToFront 106 = .ok (.goto (-39), 3) := by decide +kernel
theorem dc_B_bringToFront_109 : decode mb_B_bringToFront 109 = .ok (.aload_n 1, 1) := by decide +kernel
theorem dc_B_bringToFront_110 : decode mb_B_bringToFront 110 = .ok (.aload_n 0, 1) := by decide +kernel
theorem dc_B_bringToFront_111 : decode mb_B_bringToFront 111 = .ok (.getfield 16, 3) := by decide +kernel
theorem dc_B_bringToFront_114 : decode mb_B_bringToFront 114 = .ok (.invokevirtual 99, 3) := by decide +kernel
theorem dc_B_bringToFront_117 : decode mb_B_bringToFront 117 = .ok (.return_, 1) := by decide +kernel
theorem gI_yzs (S : YS) (r : Nat) (f : Nat → Int64 × Int32) : gI (yz S r f) (14 + r) = fun j => (f j).2 := by
  unfold yz
  rw [gI_same]
theorem sI_yzt (S : YS) (r : Nat) (f : Nat → Int64 × Int32) (h : Nat → Int32) : sI (yz S r f) (14 + r) h = yz S r (fun j => ((f j).1, h j)) := by
  unfold yz
  rw [sI_sI]
theorem sI_row (S : YS) (r : Nat) (h : Nat → Int32) : sI S (14 + r) h = yz S r (fun j => ((ye S r j).1, h j)) := by
  have := sI_yzt S r (ye S r) h
  rwa [yz_self] at this
/-- those not among the first m -/
def zuf (I : Nat → Nat) (m p : Nat) : List Nat := (List.range p).filter (fun j => !decide (j ∈ zs I 0 m))
theorem zuf_s (I : Nat → Nat) (m p : Nat) : zuf I m (p + 1) = if p ∈ zs I 0 m then zuf I m p else zuf I m p ++ [p] := by
  unfold zuf
  rw [List.range_succ, List.filter_append]
  by_cases h : p ∈ zs I 0 m
  · rw [if_pos h, List.filter_cons_of_neg (by simp [h]), List.filter_nil, List.append_nil]
  · rw [if_neg h, List.filter_cons_of_pos (by simp [h]), List.filter_nil]
theorem zuf_len {I : Nat → Nat} {m n : Nat} (hm : m ≤ n) (h : (zs I 0 n).Perm (List.range n)) : (zuf I m n).length = n - m := by
  have hn : (zs I 0 n).Nodup := h.nodup_iff.mpr List.nodup_range
  have e : zs I 0 n = zs I 0 m ++ zs I m (n - m) := by rw [zs_split I 0 hm, Nat.zero_add]
  have hp : (zuf I m n).Perm ((zs I 0 n).filter (fun j => !decide (j ∈ zs I 0 m))) := (h.filter _).symm
  rw [hp.length_eq, e, List.filter_append]
  rw [e] at hn
  have hd := (List.nodup_append.mp hn).2.2
  have e1 : (zs I 0 m).filter (fun j => !decide (j ∈ zs I 0 m)) = [] := List.filter_eq_nil_iff.mpr (fun x hx => by simp [hx])
  have e2 : (zs I m (n - m)).filter (fun j => !decide (j ∈ zs I 0 m)) = zs I m (n - m) := List.filter_eq_self.mpr (fun x hx => by
    have : x ∉ zs I 0 m := fun q => hd x q x hx rfl
    simp [this])
  rw [e1, e2, List.nil_append, zs_len]
theorem zuf_le (I : Nat → Nat) (m : Nat) {p n : Nat} (h : p ≤ n) : (zuf I m p).length ≤ (zuf I m n).length := by
  induction n with
  | zero => rw [show p = 0 by omega]; exact Nat.le_refl _
  | succ n ih =>
    by_cases e : p = n + 1
    · rw [e]; exact Nat.le_refl _
    · refine Nat.le_trans (ih (by omega)) ?_
      rw [zuf_s]
      split
      · exact Nat.le_refl _
      · rw [List.length_append]; exact Nat.le_add_right _ _
set_option maxHeartbeats 4000000 in
set_option maxRecDepth 100000 in
theorem ct_B_bringToFront (l : Launch) (g : YG) (S : YS) (k n m : Nat) (hk : k < 4) (hn : n ≤ 1024) (hm2 : m ≤ n) (hc : gF S (2 + k) 2 = nI n) (hde : gF S (2 + 4) 2 = nI n) (F : Nat → Int64 × Int32) (hF : ye S k = F) (I : Nat → Nat) (hI : (zs I 0 n).Perm (List.range n)) (hD : ∀ i, i < n → ye S 4 i = ((F (I i)).1, nI (I i))) : yC l mn_B_bringToFront mb_B_bringToFront 5 none 3 g [.ref (g.ad (0)), .ref (g.ad (2 + k)), .int (nI (m))] S (fun v S' => ∃ f', v = none ∧ yU (sF (yz S k f') (2 + k) 2 (nI n)) S' ∧ zs f' 0 n = (zs I 0 m).map F ++ (zuf I m n).map F) := by
  refine yC_of (by decide) (Nat.le_of_ble_eq_true rfl) ?_
  intro o hl hg hB0 hE
  subst hl
  subst hg
  have hB : yB o mb_B_bringToFront "OrderBench" := hB0
  have hm := hE.1
  show yW o (S) 0 [(0, .ref (o.G.ad (0))), (1, .ref (o.G.ad (2 + k))), (2, .int (nI (m)))] []
  have hk6 : k < 6 := by omega
  have hIn : ∀ i, i < n → I i < n := fun i hi => List.mem_range.mp (hI.mem_iff.mp (zs_mem.mpr ⟨i, hi, by rw [Nat.zero_add]⟩))
  refine y_aload_n (pc' := 1) hB dc_B_bringToFront_0 rfl rfl 0 rfl ?_
  refine f_B_spare (pc' := 4) hB dc_B_bringToFront_1 rfl q_104 ?_
  refine f_tags (r := 5) (pc' := 7) hB dc_B_bringToFront_4 rfl (by omega) q_49 ?_
  refine y_iconst (v := nI 0) (pc' := 8) hB dc_B_bringToFront_7 rfl rfl ?_
  refine y_callS (As := [.ref (o.G.ad (14 + 5)), .int (nI (0))]) (rest := []) (pc' := 11) hB hE (ct_jA_fill o.l o.G S (14 + 5) 1024 (by decide) (yk_row (by decide)).2.2 (by decide) (nI 0)) mm_jA_fill q_623 q_523 dc_B_bringToFront_8 rfl (by decide) rfl rfl (Nat.le_of_ble_eq_true rfl) (fun v S' hpost => ?_)
  obtain ⟨rfl, hSS⟩ := hpost
  rw [hSS]
  clear hSS S'
  show yW o (sI S (14 + 5) (zfl (gI S (14 + 5)) (nI 0) 1024)) 11 [(0, .ref (o.G.ad (0))), (1, .ref (o.G.ad (2 + k))), (2, .int (nI (m)))] []
  rw [sI_row]
  refine y_iconst (v := nI 0) (pc' := 12) hB dc_B_bringToFront_11 rfl rfl ?_
  refine y_istore_n (pc' := 13) (lv' := [(3, .int (nI (0))), (0, .ref (o.G.ad (0))), (1, .ref (o.G.ad (2 + k))), (2, .int (nI (m)))]) hB hm dc_B_bringToFront_12 rfl rfl (by decide) rfl ?_
  have second : ∀ (d : Nat) (p to : Nat) (g1 d1 : Nat → Int64 × Int32), n - p < d → p ≤ n → to = m + (zuf I m p).length → (∀ j, j < n → (g1 j).2 = if j ∈ zs I 0 m then nI 1 else nI 0) → zs d1 0 to = (zs I 0 m).map F ++ (zuf I m p).map F → yW o (yz (yz S 5 g1) 4 d1) 67 [(4, .int (nI (p))), (3, .int (nI (to))), (0, .ref (o.G.ad (0))), (1, .ref (o.G.ad (2 + k))), (2, .int (nI (m)))] [] := by
    intro d
    induction d with
    | zero => intro p to g1 d1 hd; omega
    | succ d ih =>
      intro p to g1 d1 hd h1 h2 h3 h4
      have hrk : ye (yz (yz S 5 g1) 4 d1) k = F := by rw [ye_yz_ne _ _ (by omega), ye_yz_ne _ _ (by omega), hF]
      have hlen := zuf_len hm2 hI
      refine y_iload (pc' := 69) hB dc_B_bringToFront_67 rfl 0 rfl ?_
      refine y_aload_n (pc' := 70) hB dc_B_bringToFront_69 rfl rfl 3 rfl ?_
      refine f_count (r := k) (pc' := 73) hB dc_B_bringToFront_70 rfl (by omega) q_53 ?_
      refine y_topi (y := nI (n)) hc ?_
      refine n_icmp_ge (pc' := 76) (tg := 109) hB dc_B_bringToFront_73 rfl rfl (by omega) (by omega) (fun b1 => ?_) (fun b1 => ?_)
      · have e : p = n := by omega
        subst e
        have e2 : to = p := by omega
        refine y_aload_n (pc' := 110) hB dc_B_bringToFront_109 rfl rfl 3 rfl ?_
        refine y_aload_n (pc' := 111) hB dc_B_bringToFront_110 rfl rfl 2 rfl ?_
        refine f_B_desk (pc' := 114) hB dc_B_bringToFront_111 rfl q_103 ?_
        refine y_callV (c := 2 + k) (ci := 1) (As := [.ref (o.G.ad (2 + 4))]) (rest := []) (pc' := 117) hB hE (ct_R_becomeLike o.l o.G (yz (yz S 5 g1) 4 d1) k hk6 4 (by decide) p hn hde) mm_R_becomeLike q_310 q_311 q_312 (by unfold yN; omega) (yk_row (by omega)).1 rfl dc_B_bringToFront_114 rfl (by decide) rfl rfl (Nat.le_of_ble_eq_true rfl) (fun v S' hpost => ?_)
        obtain ⟨rfl, hSS⟩ := hpost
        rw [hSS]
        clear hSS S'
        show yW o (sF (yz (yz (yz S 5 g1) 4 d1) k (va_cpy (ye (yz (yz S 5 g1) 4 d1) 4) (ye (yz (yz S 5 g1) 4 d1) k) 0 0 p)) (2 + k) 2 (nI p)) 117 [(4, .int (nI (p))), (3, .int (nI (to))), (0, .ref (o.G.ad (0))), (1, .ref (o.G.ad (2 + k))), (2, .int (nI (m)))] []
        refine y_vret hB hE dc_B_bringToFront_117 ⟨_, rfl, yU.F (((yU_yz S (Or.inr rfl) g1).tr (yU_yz _ (Or.inl rfl) d1)).z hk _) _ _ _, ?_⟩
        rw [zs_cpy, ye_yz, ← h4, e2]
      · have hle := zuf_le I m (show p + 1 ≤ n by omega)
        have hs := zuf_s I m p
        refine y_aload_n (pc' := 77) hB dc_B_bringToFront_76 rfl rfl 2 rfl ?_
        refine f_B_spare (pc' := 80) hB dc_B_bringToFront_77 rfl q_104 ?_
        refine f_tags (r := 5) (pc' := 83) hB dc_B_bringToFront_80 rfl (by omega) q_49 ?_
        refine y_iload (pc' := 85) hB dc_B_bringToFront_83 rfl 0 rfl ?_
        refine y_iald (c := 14 + 5) (n := 1024) (j := p) (pc' := 86) hB dc_B_bringToFront_85 rfl (by unfold yN; omega) (yk_row (by omega)).2.2 (by omega) (by decide) ?_
        have ht : gI (yz (yz S 5 g1) 4 d1) (14 + 5) p = if p ∈ zs I 0 m then nI 1 else nI 0 := by rw [gI_yz _ (by decide), gI_yzs]; exact h3 p b1
        refine y_topi (y := if p ∈ zs I 0 m then nI 1 else nI 0) (ht) ?_
        refine y_if_ne (x := if p ∈ zs I 0 m then nI 1 else nI 0) (pc' := 89) (tg := 103) hB dc_B_bringToFront_86 rfl rfl (fun b2 => ?_) (fun b2 => ?_)
        · have hin : p ∈ zs I 0 m := by
            by_cases q : p ∈ zs I 0 m
            · exact q
            · rw [if_neg q] at b2; exact absurd rfl b2
          rw [if_pos hin] at hs
          refine n_inc (q := 0) (z := 1) (pc' := 106) (lv' := [(4, .int (nI (p + 1))), (3, .int (nI (to))), (0, .ref (o.G.ad (0))), (1, .ref (o.G.ad (2 + k))), (2, .int (nI (m)))]) hB hm dc_B_bringToFront_103 rfl rfl (by decide) rfl ?_
          refine y_goto (tg := 67) hB dc_B_bringToFront_106 rfl ?_
          refine y_sub [0, 1, 2, 3, 4] rfl ?_
          exact ih (p + 1) to g1 d1 (by omega) b1 (by rw [hs]; exact h2) h3 (by rw [hs]; exact h4)
        · have hin : ¬ p ∈ zs I 0 m := fun q => by rw [if_pos q] at b2; exact absurd b2 (by decide)
          rw [if_neg hin] at hs
          have hl2 : (zuf I m (p + 1)).length = (zuf I m p).length + 1 := by rw [hs, List.length_append]; rfl
          refine y_aload_n (pc' := 90) hB dc_B_bringToFront_89 rfl rfl 2 rfl ?_
          refine f_B_desk (pc' := 93) hB dc_B_bringToFront_90 rfl q_103 ?_
          refine y_iload_n (pc' := 94) hB dc_B_bringToFront_93 rfl rfl 1 rfl ?_
          refine y_aload_n (pc' := 95) hB dc_B_bringToFront_94 rfl rfl 3 rfl ?_
          refine y_iload (pc' := 97) hB dc_B_bringToFront_95 rfl 0 rfl ?_
          refine y_callV (c := 2 + 4) (ci := 1) (As := [.int (nI (to)), .ref (o.G.ad (2 + k)), .int (nI (p))]) (rest := []) (pc' := 100) hB hE (ct_R_take o.l o.G (yz (yz S 5 g1) 4 d1) 4 (by decide) k hk6 to p (by omega) (by omega)) mm_R_take q_580 q_292 q_293 (by unfold yN; omega) (yk_row (by omega)).1 rfl dc_B_bringToFront_97 rfl (by decide) rfl rfl (Nat.le_of_ble_eq_true rfl) (fun v S' hpost => ?_)
          obtain ⟨rfl, hSS⟩ := hpost
          rw [hSS]
          clear hSS S'
          show yW o (yz (yz (yz S 5 g1) 4 d1) 4 (va_up (ye (yz (yz S 5 g1) 4 d1) 4) to (ye (yz (yz S 5 g1) 4 d1) k p))) 100 [(4, .int (nI (p))), (3, .int (nI (to))), (0, .ref (o.G.ad (0))), (1, .ref (o.G.ad (2 + k))), (2, .int (nI (m)))] []
          rw [hrk, ye_yz, yz_yz]
          refine n_inc (q := 1) (z := 1) (pc' := 103) (lv' := [(3, .int (nI (to + 1))), (4, .int (nI (p))), (0, .ref (o.G.ad (0))), (1, .ref (o.G.ad (2 + k))), (2, .int (nI (m)))]) hB hm dc_B_bringToFront_100 rfl rfl (by decide) rfl ?_
          refine n_inc (q := 1) (z := 1) (pc' := 106) (lv' := [(4, .int (nI (p + 1))), (3, .int (nI (to + 1))), (0, .ref (o.G.ad (0))), (1, .ref (o.G.ad (2 + k))), (2, .int (nI (m)))]) hB hm dc_B_bringToFront_103 rfl rfl (by decide) rfl ?_
          refine y_goto (tg := 67) hB dc_B_bringToFront_106 rfl ?_
          refine y_sub [0, 1, 2, 3, 4] rfl ?_
          refine ih (p + 1) (to + 1) g1 _ (by omega) b1 (by omega) h3 ?_
          have e := zs_up_end d1 (F p) (Nat.zero_le to)
          rw [Nat.sub_zero, Nat.sub_zero] at e
          rw [e, h4, hs, List.map_append, List.append_assoc]
          rfl
  have first : ∀ (d : Nat) (i : Nat) (g1 d1 : Nat → Int64 × Int32), m - i < d → i ≤ m → (∀ j, j < n → (g1 j).2 = if j ∈ zs I 0 i then nI 1 else nI 0) → (∀ t, t < i → d1 t = F (I t)) → (∀ t, i ≤ t → d1 t = ye S 4 t) → yW o (yz (yz S 5 g1) 4 d1) 13 [(3, .int (nI (i))), (0, .ref (o.G.ad (0))), (1, .ref (o.G.ad (2 + k))), (2, .int (nI (m)))] [] := by
    intro d
    induction d with
    | zero => intro i g1 d1 hd; omega
    | succ d ih =>
      intro i g1 d1 hd h1 h3 h4 h5
      have hrk : ye (yz (yz S 5 g1) 4 d1) k = F := by rw [ye_yz_ne _ _ (by omega), ye_yz_ne _ _ (by omega), hF]
      refine y_iload_n (pc' := 14) hB dc_B_bringToFront_13 rfl rfl 0 rfl ?_
      refine y_iload_n (pc' := 15) hB dc_B_bringToFront_14 rfl rfl 3 rfl ?_
      refine n_icmp_ge (pc' := 18) (tg := 62) hB dc_B_bringToFront_15 rfl rfl (by omega) (by omega) (fun b1 => ?_) (fun b1 => ?_)
      · have e : i = m := by omega
        subst e
        refine y_iload_n (pc' := 63) hB dc_B_bringToFront_62 rfl rfl 3 rfl ?_
        refine y_istore_n (pc' := 64) (lv' := [(3, .int (nI (i))), (0, .ref (o.G.ad (0))), (1, .ref (o.G.ad (2 + k))), (2, .int (nI (i)))]) hB hm dc_B_bringToFront_63 rfl rfl (by decide) rfl ?_
        refine y_iconst (v := nI 0) (pc' := 65) hB dc_B_bringToFront_64 rfl rfl ?_
        refine y_istore (pc' := 67) (lv' := [(4, .int (nI (0))), (3, .int (nI (i))), (0, .ref (o.G.ad (0))), (1, .ref (o.G.ad (2 + k))), (2, .int (nI (i)))]) hB hm dc_B_bringToFront_65 rfl (by decide) rfl ?_
        refine y_sub [0, 1, 2, 3, 4] rfl ?_
        refine second (n + 1) 0 i g1 d1 (by omega) (by omega) rfl h3 ?_
        have e2 : zuf I i 0 = [] := rfl
        rw [e2, List.map_nil, List.append_nil]
        unfold zs
        rw [List.map_map]
        refine List.map_congr_left (fun j hj => ?_)
        show d1 (0 + j) = F (I (0 + j))
        exact h4 _ (by have := List.mem_range.mp hj; omega)
      · have hin := hIn i (by omega)
        obtain ⟨pl, hpl⟩ : ∃ z, z = I i := ⟨_, rfl⟩
        rw [← hpl] at hin
        refine y_aload_n (pc' := 19) hB dc_B_bringToFront_18 rfl rfl 1 rfl ?_
        refine f_B_desk (pc' := 22) hB dc_B_bringToFront_19 rfl q_103 ?_
        refine f_tags (r := 4) (pc' := 25) hB dc_B_bringToFront_22 rfl (by omega) q_49 ?_
        refine y_iload_n (pc' := 26) hB dc_B_bringToFront_25 rfl rfl 0 rfl ?_
        refine y_iald (c := 14 + 4) (n := 1024) (j := i) (pc' := 27) hB dc_B_bringToFront_26 rfl (by unfold yN; omega) (yk_row (by omega)).2.2 (by omega) (by decide) ?_
        refine y_topi (y := nI (pl)) (by rw [gI_yzs]; show (d1 i).2 = _; rw [h5 i (Nat.le_refl _), hD i (by omega), hpl]) ?_
        refine y_istore (pc' := 29) (lv' := [(4, .int (nI (pl))), (3, .int (nI (i))), (0, .ref (o.G.ad (0))), (1, .ref (o.G.ad (2 + k))), (2, .int (nI (m)))]) hB hm dc_B_bringToFront_27 rfl (by decide) rfl ?_
        refine y_aload_n (pc' := 30) hB dc_B_bringToFront_29 rfl rfl 2 rfl ?_
        refine f_B_spare (pc' := 33) hB dc_B_bringToFront_30 rfl q_104 ?_
        refine f_tags (r := 5) (pc' := 36) hB dc_B_bringToFront_33 rfl (by omega) q_49 ?_
        refine y_iload (pc' := 38) hB dc_B_bringToFront_36 rfl 0 rfl ?_
        refine y_iconst (v := nI 1) (pc' := 39) hB dc_B_bringToFront_38 rfl rfl ?_
        refine y_iast (c := 14 + 5) (n := 1024) (j := pl) (pc' := 40) hB dc_B_bringToFront_39 rfl (by unfold yN; omega) (yk_row (by omega)).2.2 (by omega) (by decide) ?_
        rw [gI_yz _ (by decide), gI_yzs, sI_yz _ (by decide), sI_yzt]
        refine y_aload_n (pc' := 41) hB dc_B_bringToFront_40 rfl rfl 2 rfl ?_
        refine f_B_desk (pc' := 44) hB dc_B_bringToFront_41 rfl q_103 ?_
        refine f_tags (r := 4) (pc' := 47) hB dc_B_bringToFront_44 rfl (by omega) q_49 ?_
        refine y_iload_n (pc' := 48) hB dc_B_bringToFront_47 rfl rfl 1 rfl ?_
        refine y_aload_n (pc' := 49) hB dc_B_bringToFront_48 rfl rfl 3 rfl ?_
        refine f_tags (r := k) (pc' := 52) hB dc_B_bringToFront_49 rfl (by omega) q_49 ?_
        refine y_iload (pc' := 54) hB dc_B_bringToFront_52 rfl 0 rfl ?_
        refine y_iald (c := 14 + k) (n := 1024) (j := pl) (pc' := 55) hB dc_B_bringToFront_54 rfl (by unfold yN; omega) (yk_row (by omega)).2.2 (by omega) (by decide) ?_
        refine y_topi (y := (F pl).2) (by rw [gI_yz _ (by omega), gI_yz _ (by omega), ← hF]; rfl) ?_
        refine y_iast (c := 14 + 4) (n := 1024) (j := i) (pc' := 56) hB dc_B_bringToFront_55 rfl (by unfold yN; omega) (yk_row (by omega)).2.2 (by omega) (by decide) ?_
        rw [gI_yzs, sI_yzt]
        refine n_inc (q := 1) (z := 1) (pc' := 59) (lv' := [(3, .int (nI (i + 1))), (4, .int (nI (pl))), (0, .ref (o.G.ad (0))), (1, .ref (o.G.ad (2 + k))), (2, .int (nI (m)))]) hB hm dc_B_bringToFront_56 rfl rfl (by decide) rfl ?_
        refine y_goto (tg := 13) hB dc_B_bringToFront_59 rfl ?_
        refine y_sub [0, 2, 3, 4] rfl ?_
        refine ih (i + 1) _ _ (by omega) b1 (fun j hj => ?_) (fun t ht => ?_) (fun t ht => ?_)
        · show upd (fun j => (g1 j).2) pl (nI 1) j = _
          rw [zs_succ, Nat.zero_add, ← hpl]
          unfold upd
          by_cases e : j = pl
          · rw [if_pos e, if_pos (by rw [e]; exact List.mem_append_right _ List.mem_cons_self)]
          · rw [if_neg e]
            show (g1 j).2 = _
            rw [h3 j hj]
            by_cases e2 : j ∈ zs I 0 i
            · rw [if_pos e2, if_pos (List.mem_append_left _ e2)]
            · rw [if_neg e2, if_neg (fun q => by rcases List.mem_append.mp q with q | q; exact e2 q; exact e (List.mem_singleton.mp q))]
        · show ((d1 t).1, upd (fun j => (d1 j).2) i (F pl).2 t) = _
          unfold upd
          by_cases e : t = i
          · rw [if_pos e, e, h5 i (Nat.le_refl _), hD i (by omega), ← hpl]
          · rw [if_neg e]
            exact h4 t (by omega)
        · show ((d1 t).1, upd (fun j => (d1 j).2) i (F pl).2 t) = _
          unfold upd
          rw [if_neg (by omega)]
          exact h5 t (by omega)
  have hz : ∀ j, j < n → ((fun j => ((ye S 5 j).1, zfl (gI S (14 + 5)) (nI 0) 1024 j)) j : Int64 × Int32).2 = if j ∈ zs I 0 0 then nI 1 else nI 0 := fun j hj => by
    rw [zs_zero, if_neg List.not_mem_nil]
    exact if_pos (by omega)
  have h0 := first (m + 1) 0 (fun j => ((ye S 5 j).1, zfl (gI S (14 + 5)) (nI 0) 1024 j)) (ye S 4) (by omega) (by omega) hz (fun t ht => by omega) (fun _ _ => rfl)
  rw [show ye S 4 = ye (yz S 5 (fun j => ((ye S 5 j).1, zfl (gI S (14 + 5)) (nI 0) 1024 j))) 4 from (ye_yz_ne S _ (by decide)).symm, yz_self] at h0
  exact h0
