/-! COUNTING: contracts -/
theorem dc_jA_fill_0 : decode mb_jA_fill 0 = .ok (.iconst 0, 1) := by decide +kernel
theorem dc_jA_fill_1 : decode mb_jA_fill 1 = .ok (.istore_n 2, 1) := by decide +kernel
theorem dc_jA_fill_2 : decode mb_jA_fill 2 = .ok (.aload_n 0, 1) := by decide +kernel
theorem dc_jA_fill_3 : decode mb_jA_fill 3 = .ok (.arraylength, 1) := by decide +kernel
theorem dc_jA_fill_4 : decode mb_jA_fill 4 = .ok (.istore_n 3, 1) := by decide +kernel
theorem dc_jA_fill_5 : decode mb_jA_fill 5 = .ok (.iload_n 2, 1) := by decide +kernel
theorem dc_jA_fill_6 : decode mb_jA_fill 6 = .ok (.iload_n 3, 1) := by decide +kernel
theorem dc_jA_fill_7 : decode mb_jA_fill 7 = .ok (.if_icmp .ge 13, 3) := by decide +kernel
theorem dc_jA_fill_10 : decode mb_jA_fill 10 = .ok (.aload_n 0, 1) := by decide +kernel
theorem dc_jA_fill_11 : decode mb_jA_fill 11 = .ok (.iload_n 2, 1) := by decide +kernel
theorem dc_jA_fill_12 : decode mb_jA_fill 12 = .ok (.iload_n 1, 1) := by decide +kernel
theorem dc_jA_fill_13 : decode mb_jA_fill 13 = .ok (.iastore, 1) := by decide +kernel
theorem dc_jA_fill_14 : decode mb_jA_fill 14 = .ok (.iinc 2 1, 3) := by decide +kernel
theorem dc_jA_fill_17 : decode mb_jA_fill 17 = .ok (.goto (-12), 3) := by decide +kernel
theorem dc_jA_fill_20 : decode mb_jA_fill 20 = .ok (.return_, 1) := by decide +kernel
theorem dc_C_byteOf_0 : decode mb_C_byteOf 0 = .ok (.lload_n 0, 1) := by decide +kernel
theorem dc_C_byteOf_1 : decode mb_C_byteOf 1 = .ok (.iload_n 2, 1) := by decide +kernel
theorem dc_C_byteOf_2 : decode mb_C_byteOf 2 = .ok (.lushr, 1) := by decide +kernel
theorem dc_C_byteOf_3 : decode mb_C_byteOf 3 = .ok (.l2i, 1) := by decide +kernel
theorem dc_C_byteOf_4 : decode mb_C_byteOf 4 = .ok (.sipush 255, 3) := by decide +kernel
theorem dc_C_byteOf_7 : decode mb_C_byteOf 7 = .ok (.iand, 1) := by decide +kernel
theorem dc_C_byteOf_8 : decode mb_C_byteOf 8 = .ok (.ireturn, 1) := by decide +kernel
theorem dc_C_turnedBits_0 : decode mb_C_turnedBits 0 = .ok (.iload_n 0, 1) := by decide +kernel
theorem dc_C_turnedBits_1 : decode mb_C_turnedBits 1 = .ok (.lookupswitch 35 #[(0, 27), (1, 31)], 27) := by decide +kernel
theorem dc_C_turnedBits_28 : decode mb_C_turnedBits 28 = .ok (.ldc2_w 19, 3) := by decide +kernel
theorem dc_C_turnedBits_31 : decode mb_C_turnedBits 31 = .ok (.lreturn, 1) := by decide +kernel
theorem dc_C_turnedBits_32 : decode mb_C_turnedBits 32 = .ok (.ldc2_w 21, 3) := by decide +kernel
theorem dc_C_turnedBits_35 : decode mb_C_turnedBits 35 = .ok (.lreturn, 1) := by decide +kernel
theorem dc_C_turnedBits_36 : decode mb_C_turnedBits 36 = .ok (.lconst 0, 1) := by decide +kernel
theorem dc_C_turnedBits_37 : decode mb_C_turnedBits 37 = .ok (.lreturn, 1) := by decide +kernel
theorem dc_C_serves_0 : decode mb_C_serves 0 = .ok (.iload_n 0, 1) := by decide +kernel
theorem dc_C_serves_1 : decode mb_C_serves 1 = .ok (.ifCond .eq 18, 3) := by decide +kernel
theorem dc_C_serves_4 : decode mb_C_serves 4 = .ok (.iload_n 0, 1) := by decide +kernel
theorem dc_C_serves_5 : decode mb_C_serves 5 = .ok (.iconst 1, 1) := by decide +kernel
theorem dc_C_serves_6 : decode mb_C_serves 6 = .ok (.if_icmp .eq 13, 3) := by decide +kernel
theorem dc_C_serves_9 : decode mb_C_serves 9 = .ok (.iload_n 0, 1) := by decide +kernel
theorem dc_C_serves_10 : decode mb_C_serves 10 = .ok (.iconst 2, 1) := by decide +kernel
theorem dc_C_serves_11 : decode mb_C_serves 11 = .ok (.if_icmp .eq 8, 3) := by decide +kernel
theorem dc_C_serves_14 : decode mb_C_serves 14 = .ok (.iload_n 0, 1) := by decide +kernel
theorem dc_C_serves_15 : decode mb_C_serves 15 = .ok (.iconst 5, 1) := by decide +kernel
theorem dc_C_serves_16 : decode mb_C_serves 16 = .ok (.if_icmp .ne 7, 3) := by decide +kernel
theorem dc_C_serves_19 : decode mb_C_serves 19 = .ok (.iconst 1, 1) := by decide +kernel
theorem dc_C_serves_20 : decode mb_C_serves 20 = .ok (.goto 4, 3) := by decide +kernel
theorem dc_C_serves_23 : decode mb_C_serves 23 = .ok (.iconst 0, 1) := by decide +kernel
theorem dc_C_serves_24 : decode mb_C_serves 24 = .ok (.ireturn, 1) := by decide +kernel
theorem dc_C_arrangeByByte_0 : decode mb_C_arrangeByByte 0 = .ok (.aload_n 2, 1) := by decide +kernel
theorem dc_C_arrangeByByte_1 : decode mb_C_arrangeByByte 1 = .ok (.iconst 0, 1) := by decide +kernel
theorem dc_C_arrangeByByte_2 : decode mb_C_arrangeByByte 2 = .ok (.invokestatic 23, 3) := by decide +kernel
theorem dc_C_arrangeByByte_5 : decode mb_C_arrangeByByte 5 = .ok (.iconst 0, 1) := by decide +kernel
theorem dc_C_arrangeByByte_6 : decode mb_C_arrangeByByte 6 = .ok (.istore 6, 2) := by decide +kernel
theorem dc_C_arrangeByByte_8 : decode mb_C_arrangeByByte 8 = .ok (.iload 6, 2) := by decide +kernel
theorem dc_C_arrangeByByte_10 : decode mb_C_arrangeByByte 10 = .ok (.aload_n 0, 1) := by decide +kernel
theorem dc_C_arrangeByByte_11 : decode mb_C_arrangeByByte 11 = .ok (.getfield 29, 3) := by decide +kernel
theorem dc_C_arrangeByByte_14 : decode mb_C_arrangeByByte 14 = .ok (.if_icmp .ge 29, 3) := by decide +kernel
theorem dc_C_arrangeByByte_17 : decode mb_C_arrangeByByte 17 = .ok (.aload_n 2, 1) := by decide +kernel
theorem dc_C_arrangeByByte_18 : decode mb_C_arrangeByByte 18 = .ok (.aload_n 0, 1) := by decide +kernel
theorem dc_C_arrangeByByte_19 : decode mb_C_arrangeByByte 19 = .ok (.getfield 35, 3) := by decide +kernel
theorem dc_C_arrangeByByte_22 : decode mb_C_arrangeByByte 22 = .ok (.iload 6, 2) := by decide +kernel
theorem dc_C_arrangeByByte_24 : decode mb_C_arrangeByByte 24 = .ok (.laload, 1) := by decide +kernel
theorem dc_C_arrangeByByte_25 : decode mb_C_arrangeByByte 25 = .ok (.lload_n 3, 1) := by decide +kernel
theorem dc_C_arrangeByByte_26 : decode mb_C_arrangeByByte 26 = .ok (.lxor, 1) := by decide +kernel
theorem dc_C_arrangeByByte_27 : decode mb_C_arrangeByByte 27 = .ok (.iload 5, 2) := by decide +kernel
theorem dc_C_arrangeByByte_29 : decode mb_C_arrangeByByte 29 = .ok (.invokestatic 39, 3) := by decide +kernel
theorem dc_C_arrangeByByte_32 : decode mb_C_arrangeByByte 32 = .ok (.dup2, 1) := by decide +kernel
theorem dc_C_arrangeByByte_33 : decode mb_C_arrangeByByte 33 = .ok (.iaload, 1) := by decide +kernel
theorem dc_C_arrangeByByte_34 : decode mb_C_arrangeByByte 34 = .ok (.iconst 1, 1) := by decide +kernel
theorem dc_C_arrangeByByte_35 : decode mb_C_arrangeByByte 35 = .ok (.iadd, 1) := by decide +kernel
theorem dc_C_arrangeByByte_36 : decode mb_C_arrangeByByte 36 = .ok (.iastore, 1) := by decide +kernel
theorem dc_C_arrangeByByte_37 : decode mb_C_arrangeByByte 37 = .ok (.iinc 6 1, 3) := by decide +kernel
theorem dc_C_arrangeByByte_40 : decode mb_C_arrangeByByte 40 = .ok (.goto (-32), 3) := by decide +kernel
theorem dc_C_arrangeByByte_43 : decode mb_C_arrangeByByte 43 = .ok (.iconst 0, 1) := by decide +kernel
theorem dc_C_arrangeByByte_44 : decode mb_C_arrangeByByte 44 = .ok (.istore 6, 2) := by decide +kernel
theorem dc_C_arrangeByByte_46 : decode mb_C_arrangeByByte 46 = .ok (.iconst 0, 1) := by decide +kernel
theorem dc_C_arrangeByByte_47 : decode mb_C_arrangeByByte 47 = .ok (.istore 7, 2) := by decide +kernel
theorem dc_C_arrangeByByte_49 : decode mb_C_arrangeByByte 49 = .ok (.iload 7, 2) := by decide +kernel
theorem dc_C_arrangeByByte_51 : decode mb_C_arrangeByByte 51 = .ok (.sipush 256, 3) := by decide +kernel
theorem dc_C_arrangeByByte_54 : decode mb_C_arrangeByByte 54 = .ok (.if_icmp .ge 28, 3) := by decide +kernel
theorem dc_C_arrangeByByte_57 : decode mb_C_arrangeByByte 57 = .ok (.aload_n 2, 1) := by decide +kernel
theorem dc_C_arrangeByByte_58 : decode mb_C_arrangeByByte 58 = .ok (.iload 7, 2) := by decide +kernel
theorem dc_C_arrangeByByte_60 : decode mb_C_arrangeByByte 60 = .ok (.iaload, 1) := by decide +kernel
theorem dc_C_arrangeByByte_61 : decode mb_C_arrangeByByte 61 = .ok (.istore 8, 2) := by decide +kernel
theorem dc_C_arrangeByByte_63 : decode mb_C_arrangeByByte 63 = .ok (.aload_n 2, 1) := by decide +kernel
theorem dc_C_arrangeByByte_64 : decode mb_C_arrangeByByte 64 = .ok (.iload 7, 2) := by decide +kernel
theorem dc_C_arrangeByByte_66 : decode mb_C_arrangeByByte 66 = .ok (.iload 6, 2) := by decide +kernel
theorem dc_C_arrangeByByte_68 : decode mb_C_arrangeByByte 68 = .ok (.iastore, 1) := by decide +kernel
theorem dc_C_arrangeByByte_69 : decode mb_C_arrangeByByte 69 = .ok (.iload 6, 2) := by decide +kernel
theorem dc_C_arrangeByByte_71 : decode mb_C_arrangeByByte 71 = .ok (.iload 8, 2) := by decide +kernel
theorem dc_C_arrangeByByte_73 : decode mb_C_arrangeByByte 73 = .ok (.iadd, 1) := by decide +kernel
theorem dc_C_arrangeByByte_74 : decode mb_C_arrangeByByte 74 = .ok (.istore 6, 2) := by decide +kernel
theorem dc_C_arrangeByByte_76 : decode mb_C_arrangeByByte 76 = .ok (.iinc 7 1, 3) := by decide +kernel
theorem dc_C_arrangeByByte_79 : decode mb_C_arrangeByByte 79 = .ok (.goto (-30), 3) := by decide +kernel
theorem dc_C_arrangeByByte_82 : decode mb_C_arrangeByByte 82 = .ok (.iconst 0, 1) := by decide +kernel
theorem dc_C_arrangeByByte_83 : decode mb_C_arrangeByByte 83 = .ok (.istore 7, 2) := by decide +kernel
theorem dc_C_arrangeByByte_85 : decode mb_C_arrangeByByte 85 = .ok (.iload 7, 2) := by decide +kernel
theorem dc_C_arrangeByByte_87 : decode mb_C_arrangeByByte 87 = .ok (.aload_n 0, 1) := by decide +kernel
theorem dc_C_arrangeByByte_88 : decode mb_C_arrangeByByte 88 = .ok (.getfield 29, 3) := by decide +kernel
theorem dc_C_arrangeByByte_91 : decode mb_C_arrangeByByte 91 = .ok (.if_icmp .ge 44, 3) := by decide +kernel
theorem dc_C_arrangeByByte_94 : decode mb_C_arrangeByByte 94 = .ok (.aload_n 0, 1) := by decide +kernel
theorem dc_C_arrangeByByte_95 : decode mb_C_arrangeByByte 95 = .ok (.getfield 35, 3) := by decide +kernel
theorem dc_C_arrangeByByte_98 : decode mb_C_arrangeByByte 98 = .ok (.iload 7, 2) := by decide +kernel
theorem dc_C_arrangeByByte_100 : decode mb_C_arrangeByByte 100 = .ok (.laload, 1) := by decide +kernel
theorem dc_C_arrangeByByte_101 : decode mb_C_arrangeByByte 101 = .ok (.lload_n 3, 1) := by decide +kernel
theorem dc_C_arrangeByByte_102 : decode mb_C_arrangeByByte 102 = .ok (.lxor, 1) := by decide +kernel
theorem dc_C_arrangeByByte_103 : decode mb_C_arrangeByByte 103 = .ok (.iload 5, 2) := by decide +kernel
theorem dc_C_arrangeByByte_105 : decode mb_C_arrangeByByte 105 = .ok (.invokestatic 39, 3) := by decide +kernel
theorem dc_C_arrangeByByte_108 : decode mb_C_arrangeByByte 108 = .ok (.istore 8, 2) := by decide +kernel
theorem dc_C_arrangeByByte_110 : decode mb_C_arrangeByByte 110 = .ok (.aload_n 1, 1) := by decide +kernel
theorem dc_C_arrangeByByte_111 : decode mb_C_arrangeByByte 111 = .ok (.aload_n 2, 1) := by decide +kernel
theorem dc_C_arrangeByByte_112 : decode mb_C_arrangeByByte 112 = .ok (.iload 8, 2) := by decide +kernel
theorem dc_C_arrangeByByte_114 : decode mb_C_arrangeByByte 114 = .ok (.iaload, 1) := by decide +kernel
theorem dc_C_arrangeByByte_115 : decode mb_C_arrangeByByte 115 = .ok (.aload_n 0, 1) := by decide +kernel
theorem dc_C_arrangeByByte_116 : decode mb_C_arrangeByByte 116 = .ok (.iload 7, 2) := by decide +kernel
theorem dc_C_arrangeByByte_118 : decode mb_C_arrangeByByte 118 = .ok (.invokevirtual 43, 3) := by decide +kernel
theorem dc_C_arrangeByByte_121 : decode mb_C_arrangeByByte 121 = .ok (.aload_n 2, 1) := by decide +kernel
theorem dc_C_arrangeByByte_122 : decode mb_C_arrangeByByte 122 = .ok (.iload 8, 2) := by decide +kernel
theorem dc_C_arrangeByByte_124 : decode mb_C_arrangeByByte 124 = .ok (.dup2, 1) := by decide +kernel
theorem dc_C_arrangeByByte_125 : decode mb_C_arrangeByByte 125 = .ok (.iaload, 1) := by decide +kernel
theorem dc_C_arrangeByByte_126 : decode mb_C_arrangeByByte 126 = .ok (.iconst 1, 1) := by decide +kernel
theorem dc_C_arrangeByByte_127 : decode mb_C_arrangeByByte 127 = .ok (.iadd, 1) := by decide +kernel
theorem dc_C_arrangeByByte_128 : decode mb_C_arrangeByByte 128 = .ok (.iastore, 1) := by decide +kernel
theorem dc_C_arrangeByByte_129 : decode mb_C_arrangeByByte 129 = .ok (.iinc 7 1, 3) := by decide +kernel
theorem dc_C_arrangeByByte_132 : decode mb_C_arrangeByByte 132 = .ok (.goto (-47), 3) := by decide +kernel
theorem dc_C_arrangeByByte_135 : decode mb_C_arrangeByByte 135 = .ok (.aload_n 0, 1) := by decide +kernel
theorem dc_C_arrangeByByte_136 : decode mb_C_arrangeByByte 136 = .ok (.iconst 0, 1) := by decide +kernel
theorem dc_C_arrangeByByte_137 : decode mb_C_arrangeByByte 137 = .ok (.aload_n 1, 1) := by decide +kernel
theorem dc_C_arrangeByByte_138 : decode mb_C_arrangeByByte 138 = .ok (.iconst 0, 1) := by decide +kernel
theorem dc_C_arrangeByByte_139 : decode mb_C_arrangeByByte 139 = .ok (.aload_n 0, 1) := by decide +kernel
theorem dc_C_arrangeByByte_140 : decode mb_C_arrangeByByte 140 = .ok (.getfield 29, 3) := by decide +kernel
theorem dc_C_arrangeByByte_143 : decode mb_C_arrangeByByte 143 = .ok (.invokevirtual 47, 3) := by decide +kernel
theorem dc_C_arrangeByByte_146 : decode mb_C_arrangeByByte 146 = .ok (.return_, 1) := by decide +kernel
theorem y_alen {o : YO} {b : ByteArray} {own : String} {S : YS} {pc pc' c n : Nat} {lv : List (Nat × Value)} {st : List Value} (hB : yB o b own) (hd : decode b pc = .ok (.arraylength, 1)) (hp : pc + 1 = pc') (hc : c < yN) (he : yk c = (2, n)) (kk : yW o S pc' lv (.int (nI n) :: st)) : yW o S pc lv (.ref (o.G.ad c) :: st) := by
  subst hp
  exact fun ls H locs hl' hH => va_alen (x := (n, .inl (gI S c))) hB.1 hB.2.1 hB.K hH.1 c 0 ((yw_get hc).trans (by rw [yc_I he])) rfl rfl hd (kk ls H locs hl' hH)
theorem sI_sI (S : YS) (c : Nat) (f g : Nat → Int32) : sI (sI S c f) c g = sI S c g := by
  refine YS_ext (fun c => rfl) (fun c' => ?_) (fun c k => rfl)
  simp only [gI_sI]
  split <;> rfl
theorem gI_same (S : YS) (c : Nat) (f : Nat → Int32) : gI (sI S c f) c = f := by rw [gI_sI, if_pos rfl]
theorem sI_self (S : YS) (c : Nat) : sI S c (gI S c) = S := by
  refine YS_ext (fun c => rfl) (fun c' => ?_) (fun c k => rfl)
  rw [gI_sI]
  split
  · rename_i h; rw [h]
  · rfl
theorem sI_yz (S : YS) {c q : Nat} (h : c ≠ 14 + q) (f : Nat → Int32) (g : Nat → Int64 × Int32) : sI (yz S q g) c f = yz (sI S c f) q g := by
  refine YS_ext (fun c => rfl) (fun c' => ?_) (fun c k => rfl)
  unfold yz
  simp only [gI_sI, gI_sL]
  by_cases h1 : c' = c
  · rw [if_pos h1, if_neg (by omega), if_pos h1]
  · rw [if_neg h1, if_neg h1]
theorem gI_yz (S : YS) {c q : Nat} (h : c ≠ 14 + q) (g : Nat → Int64 × Int32) : gI (yz S q g) c = gI S c := by
  unfold yz
  rw [gI_sI, if_neg h, gI_sL]
theorem ye_sI (S : YS) {c r : Nat} (h : c ≠ 14 + r) (f : Nat → Int32) : ye (sI S c f) r = ye S r := by
  funext j
  unfold ye
  rw [gL_sI, gI_sI, if_neg (fun z => h z.symm)]
/-- the first n set to x -/
def zfl (f : Nat → Int32) (x : Int32) (n : Nat) : Nat → Int32 := fun j => if j < n then x else f j
theorem zfl_0 (f : Nat → Int32) (x : Int32) : zfl f x 0 = f := funext fun j => if_neg (by omega)
theorem zfl_s (f : Nat → Int32) (x : Int32) (n : Nat) : upd (zfl f x n) n x = zfl f x (n + 1) := by
  funext j
  unfold upd zfl
  by_cases h : j = n
  · rw [if_pos h, if_pos (by omega)]
  · rw [if_neg h]
    by_cases h2 : j < n
    · rw [if_pos h2, if_pos (by omega)]
    · rw [if_neg h2, if_neg (by omega)]
set_option maxHeartbeats 4000000 in
set_option maxRecDepth 100000 in
theorem ct_jA_fill (l : Launch) (g : YG) (S : YS) (fc fn : Nat) (hfc : fc < yN) (hfe : yk fc = (2, fn)) (hfn : fn ≤ 4096) (x : Int32) : yC l mn_jA_fill mb_jA_fill 4 none 0 g [.ref (g.ad (fc)), .int (x)] S (fun v S' => v = none ∧ S' = sI S fc (zfl (gI S fc) x fn)) := by
  refine yC_of (by decide) (Nat.le_of_ble_eq_true rfl) ?_
  intro o hl hg hB0 hE
  subst hl
  subst hg
  have hB : yB o mb_jA_fill "java/util/Arrays" := hB0
  have hm := hE.1
  show yW o (S) 0 [(0, .ref (o.G.ad (fc))), (1, .int (x))] []
  refine y_iconst (v := nI 0) (pc' := 1) hB dc_jA_fill_0 rfl rfl ?_
  refine y_istore_n (pc' := 2) (lv' := [(2, .int (nI (0))), (0, .ref (o.G.ad (fc))), (1, .int (x))]) hB hm dc_jA_fill_1 rfl rfl (by decide) rfl ?_
  refine y_aload_n (pc' := 3) hB dc_jA_fill_2 rfl rfl 1 rfl ?_
  refine y_alen (pc' := 4) hB dc_jA_fill_3 rfl hfc hfe ?_
  refine y_istore_n (pc' := 5) (lv' := [(3, .int (nI (fn))), (2, .int (nI (0))), (0, .ref (o.G.ad (fc))), (1, .int (x))]) hB hm dc_jA_fill_4 rfl rfl (by decide) rfl ?_
  have loop : ∀ (d : Nat) (i : Nat), fn - i < d → i ≤ fn → yW o (sI S fc (zfl (gI S fc) x i)) 5 [(3, .int (nI (fn))), (2, .int (nI (i))), (0, .ref (o.G.ad (fc))), (1, .int (x))] [] := by
    intro d
    induction d with
    | zero => intro i hd; omega
    | succ d ih =>
      intro i hd h1
      refine y_iload_n (pc' := 6) hB dc_jA_fill_5 rfl rfl 1 rfl ?_
      refine y_iload_n (pc' := 7) hB dc_jA_fill_6 rfl rfl 0 rfl ?_
      refine n_icmp_ge (pc' := 10) (tg := 20) hB dc_jA_fill_7 rfl rfl (by omega) (by omega) (fun h => ?_) (fun h => ?_)
      · have e : i = fn := by omega
        subst e
        exact y_vret hB hE dc_jA_fill_20 ⟨rfl, rfl⟩
      · have hd0 : fn < 2 ^ 31 := by omega
        refine y_aload_n (pc' := 11) hB dc_jA_fill_10 rfl rfl 2 rfl ?_
        refine y_iload_n (pc' := 12) hB dc_jA_fill_11 rfl rfl 1 rfl ?_
        refine y_iload_n (pc' := 13) hB dc_jA_fill_12 rfl rfl 3 rfl ?_
        refine y_iast (c := fc) (n := fn) (j := i) (pc' := 14) hB dc_jA_fill_13 rfl hfc hfe h hd0 ?_
        rw [gI_same, sI_sI, zfl_s]
        refine n_inc (q := 1) (z := 1) (pc' := 17) (lv' := [(2, .int (nI (i + 1))), (3, .int (nI (fn))), (0, .ref (o.G.ad (fc))), (1, .int (x))]) hB hm dc_jA_fill_14 rfl rfl (by decide) rfl ?_
        refine y_goto (tg := 5) hB dc_jA_fill_17 rfl ?_
        refine y_sub [1, 0, 2, 3] rfl ?_
        exact ih (i + 1) (by omega) (by omega)
  have h0 := loop (fn + 1) 0 (by omega) (by omega)
  rw [zfl_0, sI_self] at h0
  exact h0
set_option maxHeartbeats 4000000 in
set_option maxRecDepth 100000 in
theorem ct_C_byteOf (l : Launch) (g : YG) (S : YS) (k : Int64) (sh : Nat) (hs : sh < 64) : yC l mn_C_byteOf mb_C_byteOf 3 (some .int) 0 g [.long (k), .int (nI (sh))] S (fun v S' => v = some (.int (nI (uN k / 2 ^ sh % 256))) ∧ S' = S) := by
  refine yC_of (by decide) (Nat.le_of_ble_eq_true rfl) ?_
  intro o hl hg hB0 hE
  subst hl
  subst hg
  have hB : yB o mb_C_byteOf "OrderBench$Counting" := hB0
  have hm := hE.1
  show yW o (S) 0 [(0, .long (k)), (2, .int (nI (sh)))] []
  refine y_lload_n (pc' := 1) hB dc_C_byteOf_0 rfl rfl 0 rfl ?_
  refine y_iload_n (pc' := 2) hB dc_C_byteOf_1 rfl rfl 1 rfl ?_
  refine y_lushr (v := (Int64.toUInt64 (k) >>> (Int64.toUInt64 (Int32.toInt64 (nI (sh))) &&& Int64.toUInt64 63)).toInt64) (pc' := 3) hB dc_C_byteOf_2 rfl rfl ?_
  refine y_l2i (v := Int64.toInt32 ((Int64.toUInt64 (k) >>> (Int64.toUInt64 (Int32.toInt64 (nI (sh))) &&& Int64.toUInt64 63)).toInt64)) (pc' := 4) hB dc_C_byteOf_3 rfl rfl ?_
  refine y_sipush (v := nI 255) (pc' := 7) hB dc_C_byteOf_4 rfl (by decide) ?_
  refine y_iand (v := (Int64.toInt32 ((Int64.toUInt64 (k) >>> (Int64.toUInt64 (Int32.toInt64 (nI (sh))) &&& Int64.toUInt64 63)).toInt64)) &&& (nI (255))) (pc' := 8) hB dc_C_byteOf_7 rfl rfl ?_
  rw [uN_byte, uN_sk k hs]
  exact y_iret hB hE dc_C_byteOf_8 ⟨rfl, rfl⟩
set_option maxHeartbeats 4000000 in
set_option maxRecDepth 100000 in
theorem ct_C_turnedBits (l : Launch) (g : YG) (S : YS) (od : Nat) (ho : od < 8) : yC l mn_C_turnedBits mb_C_turnedBits 1 (some .long) 0 g [.int (nI (od))] S (fun v S' => v = some (.long (ztb od)) ∧ S' = S) := by
  refine yC_of (by decide) (Nat.le_of_ble_eq_true rfl) ?_
  intro o hl hg hB0 hE
  subst hl
  subst hg
  have hB : yB o mb_C_turnedBits "OrderBench$Counting" := hB0
  have hm := hE.1
  show yW o (S) 0 [(0, .int (nI (od)))] []
  refine y_iload_n (pc' := 1) hB dc_C_turnedBits_0 rfl rfl 0 rfl ?_
  rcases (show od = 0 ∨ od = 1 ∨ (2 ≤ od ∧ od < 8) by omega) with e | e | e
  · subst e
    refine y_lookup (off := 27) (tg := 28) hB dc_C_turnedBits_1 (by decide) (by decide) rfl ?_
    refine y_ldc2 (v := (-9223372036854775808)) (pc' := 31) hB dc_C_turnedBits_28 rfl q_517 ?_
    exact y_lret hB hE dc_C_turnedBits_31 ⟨rfl, rfl⟩
  · subst e
    refine y_lookup (off := 31) (tg := 32) hB dc_C_turnedBits_1 (by decide) (by decide) rfl ?_
    refine y_ldc2 (v := 9223372036854775807) (pc' := 35) hB dc_C_turnedBits_32 rfl q_518 ?_
    exact y_lret hB hE dc_C_turnedBits_35 ⟨rfl, rfl⟩
  · have e2 : ztb od = 0 := by unfold ztb; rw [if_neg (by omega), if_neg (by omega)]
    refine y_lookup (off := 35) (tg := 36) hB dc_C_turnedBits_1 (by decide) (by rcases (show od = 2 ∨ od = 3 ∨ od = 4 ∨ od = 5 ∨ od = 6 ∨ od = 7 by omega) with e | e | e | e | e | e <;> subst e <;> decide) rfl ?_
    refine y_lconst (v := 0) (pc' := 37) hB dc_C_turnedBits_36 rfl rfl ?_
    exact y_lret hB hE dc_C_turnedBits_37 ⟨by rw [e2], rfl⟩
set_option maxHeartbeats 4000000 in
set_option maxRecDepth 100000 in
theorem ct_C_serves (l : Launch) (g : YG) (S : YS) (od : Nat) (ho : od < 8) : yC l mn_C_serves mb_C_serves 1 (some .boolean) 0 g [.int (nI (od))] S (fun v S' => v = some (.int (yb (decide (od = 0 ∨ od = 1 ∨ od = 2 ∨ od = 5)))) ∧ S' = S) := by
  refine yC_of (by decide) (Nat.le_of_ble_eq_true rfl) ?_
  intro o hl hg hB0 hE
  subst hl
  subst hg
  have hB : yB o mb_C_serves "OrderBench$Counting" := hB0
  have hm := hE.1
  show yW o (S) 0 [(0, .int (nI (od)))] []
  have yes : (od = 0 ∨ od = 1 ∨ od = 2 ∨ od = 5) → yW o S 19 [(0, .int (nI (od)))] [] := by
    intro hq
    refine y_iconst (v := nI 1) (pc' := 20) hB dc_C_serves_19 rfl rfl ?_
    refine y_goto (tg := 24) hB dc_C_serves_20 rfl ?_
    exact y_zret hB hE dc_C_serves_24 (Or.inr rfl) ⟨by rw [decide_eq_true hq]; rfl, rfl⟩
  refine y_iload_n (pc' := 1) hB dc_C_serves_0 rfl rfl 0 rfl ?_
  refine n_if_eq (pc' := 4) (tg := 19) hB dc_C_serves_1 rfl rfl (by omega) (fun a1 => ?_) (fun a1 => ?_)
  · exact yes (by omega)
  · refine y_iload_n (pc' := 5) hB dc_C_serves_4 rfl rfl 0 rfl ?_
    refine y_iconst (v := nI 1) (pc' := 6) hB dc_C_serves_5 rfl rfl ?_
    refine n_icmp_eq (pc' := 9) (tg := 19) hB dc_C_serves_6 rfl rfl (by omega) (by omega) (fun a2 => ?_) (fun a2 => ?_)
    · exact yes (by omega)
    · refine y_iload_n (pc' := 10) hB dc_C_serves_9 rfl rfl 0 rfl ?_
      refine y_iconst (v := nI 2) (pc' := 11) hB dc_C_serves_10 rfl rfl ?_
      refine n_icmp_eq (pc' := 14) (tg := 19) hB dc_C_serves_11 rfl rfl (by omega) (by omega) (fun a3 => ?_) (fun a3 => ?_)
      · exact yes (by omega)
      · refine y_iload_n (pc' := 15) hB dc_C_serves_14 rfl rfl 0 rfl ?_
        refine y_iconst (v := nI 5) (pc' := 16) hB dc_C_serves_15 rfl rfl ?_
        refine n_icmp_ne (pc' := 19) (tg := 23) hB dc_C_serves_16 rfl rfl (by omega) (by omega) (fun a4 => ?_) (fun a4 => ?_)
        · refine y_iconst (v := nI 0) (pc' := 24) hB dc_C_serves_23 rfl rfl ?_
          exact y_zret hB hE dc_C_serves_24 (Or.inl rfl) ⟨by rw [decide_eq_false (by omega)]; rfl, rfl⟩
        · exact yes (by omega)
set_option maxHeartbeats 4000000 in
set_option maxRecDepth 100000 in
theorem ct_C_arrangeByByte (l : Launch) (g : YG) (S : YS) (r : Nat) (hr : r < 6) (q : Nat) (hq : q < 6) (hqr : r ≠ q) (n : Nat) (hn : n ≤ 1024) (hc : gF S (2 + r) 2 = nI n) (T : Int64) (sh : Nat) (hs : sh < 64) : yC l mn_C_arrangeByByte mb_C_arrangeByByte 9 none 2 g [.ref (g.ad (2 + r)), .ref (g.ad (2 + q)), .ref (g.ad (23)), .long (T), .int (nI (sh))] S (fun v S' => ∃ h' g' f', v = none ∧ S' = yz (yz (sI S 23 h') q g') r f' ∧ zs f' 0 n = zbk (zby T sh) (zs (ye S r) 0 n) 256 ∧ (∀ j, n ≤ j → f' j = (ye S r) j)) := by
  refine yC_of (by decide) (Nat.le_of_ble_eq_true rfl) ?_
  intro o hl hg hB0 hE
  subst hl
  subst hg
  have hB : yB o mb_C_arrangeByByte "OrderBench$Counting" := hB0
  have hm := hE.1
  show yW o (S) 0 [(0, .ref (o.G.ad (2 + r))), (1, .ref (o.G.ad (2 + q))), (2, .ref (o.G.ad (23))), (3, .long (T)), (5, .int (nI (sh)))] []
  obtain ⟨f, hf⟩ : ∃ z, z = (ye S r) := ⟨_, rfl⟩
  have hby : ∀ j, uN ((f j).1 ^^^ T) / 2 ^ sh % 256 = zby T sh (f j) := fun j => rfl
  have e23 : ∀ r, r < 6 → 23 ≠ 14 + r := fun r h => by omega
  refine y_aload_n (pc' := 1) hB dc_C_arrangeByByte_0 rfl rfl 2 rfl ?_
  refine y_iconst (v := nI 0) (pc' := 2) hB dc_C_arrangeByByte_1 rfl rfl ?_
  refine y_callS (As := [.ref (o.G.ad (23)), .int (nI (0))]) (rest := []) (pc' := 5) hB hE (ct_jA_fill o.l o.G S 23 256 (by decide) rfl (by decide) (nI 0)) mm_jA_fill q_522 q_523 dc_C_arrangeByByte_2 rfl (by decide) rfl rfl (Nat.le_of_ble_eq_true rfl) (fun v S' hpost => ?_)
  obtain ⟨rfl, hSS⟩ := hpost
  rw [hSS]
  clear hSS S'
  show yW o (sI S 23 (zfl (gI S 23) (nI 0) 256)) 5 [(0, .ref (o.G.ad (2 + r))), (1, .ref (o.G.ad (2 + q))), (2, .ref (o.G.ad (23))), (3, .long (T)), (5, .int (nI (sh)))] []
  have third : ∀ (d : Nat) (i bs : Nat) (h1 : Nat → Int32) (g1 : Nat → Int64 × Int32), n - i < d → i ≤ n → (∀ v, v < 256 → h1 v = nI (zbs (zby T sh) f n v + zct (zby T sh) f i v)) → (∀ v, v < 256 → zs g1 (zbs (zby T sh) f n v) (zct (zby T sh) f i v) = (zs f 0 i).filter (fun x => decide ((zby T sh) x = v))) → yW o (yz (sI S 23 h1) q g1) 85 [(7, .int (nI (i))), (6, .int (nI (bs))), (0, .ref (o.G.ad (2 + r))), (1, .ref (o.G.ad (2 + q))), (2, .ref (o.G.ad (23))), (3, .long (T)), (5, .int (nI (sh)))] [] := by
    intro d
    induction d with
    | zero => intro i bs h1 g1 hd; omega
    | succ d ih =>
      intro i bs h1 g1 hd k1 k2 k3
      refine y_iload (pc' := 87) hB dc_C_arrangeByByte_85 rfl 0 rfl ?_
      refine y_aload_n (pc' := 88) hB dc_C_arrangeByByte_87 rfl rfl 2 rfl ?_
      refine f_count (r := r) (pc' := 91) hB dc_C_arrangeByByte_88 rfl (by omega) q_55 ?_
      refine y_topi (y := nI (n)) hc ?_
      refine n_icmp_ge (pc' := 94) (tg := 135) hB dc_C_arrangeByByte_91 rfl rfl (by omega) (by omega) (fun h => ?_) (fun h => ?_)
      · have e : i = n := by omega
        subst e
        have hr3 : ye (yz (sI S 23 h1) q g1) r = f := by rw [ye_yz_ne _ _ hqr, ye_sI _ (e23 r hr), hf]
        refine y_aload_n (pc' := 136) hB dc_C_arrangeByByte_135 rfl rfl 2 rfl ?_
        refine y_iconst (v := nI 0) (pc' := 137) hB dc_C_arrangeByByte_136 rfl rfl ?_
        refine y_aload_n (pc' := 138) hB dc_C_arrangeByByte_137 rfl rfl 3 rfl ?_
        refine y_iconst (v := nI 0) (pc' := 139) hB dc_C_arrangeByByte_138 rfl rfl ?_
        refine y_aload_n (pc' := 140) hB dc_C_arrangeByByte_139 rfl rfl 2 rfl ?_
        refine f_count (r := r) (pc' := 143) hB dc_C_arrangeByByte_140 rfl (by omega) q_55 ?_
        refine y_topi (y := nI (i)) hc ?_
        refine y_callV (c := 2 + r) (ci := 1) (As := [.int (nI (0)), .ref (o.G.ad (2 + q)), .int (nI (0)), .int (nI (i))]) (rest := []) (pc' := 146) hB hE (ct_R_takeMany o.l o.G (yz (sI S 23 h1) q g1) r hr q hq 0 0 i (by omega) (by omega)) mm_R_takeMany q_529 q_315 q_316 (by unfold yN; omega) (yk_row (by omega)).1 rfl dc_C_arrangeByByte_143 rfl (by decide) rfl rfl (Nat.le_of_ble_eq_true rfl) (fun v S' hpost => ?_)
        obtain ⟨rfl, hSS⟩ := hpost
        rw [hSS]
        clear hSS S'
        show yW o (yz (yz (sI S 23 h1) q g1) r (va_cpy (ye (yz (sI S 23 h1) q g1) q) (ye (yz (sI S 23 h1) q g1) r) 0 0 i)) 146 [(7, .int (nI (i))), (6, .int (nI (bs))), (0, .ref (o.G.ad (2 + r))), (1, .ref (o.G.ad (2 + q))), (2, .ref (o.G.ad (23))), (3, .long (T)), (5, .int (nI (sh)))] []
        rw [ye_yz, hr3]
        refine y_vret hB hE dc_C_arrangeByByte_146 ⟨h1, g1, _, rfl, rfl, ?_, fun j hj => ?_⟩
        · rw [← hf, ← zbuckets k3 256 (Nat.le_refl _), zbs_all f i (zby_lt T sh)]
          exact zs_congr (fun j hj => by rw [Nat.zero_add, pk_cpy_in (by omega) (by omega)]; congr 1; omega)
        · rw [pk_cpy_out (Or.inr (by omega)), hf]
      · have hr3 : ye (yz (sI S 23 h1) q g1) r = f := by rw [ye_yz_ne _ _ hqr, ye_sI _ (e23 r hr), hf]
        refine y_aload_n (pc' := 95) hB dc_C_arrangeByByte_94 rfl rfl 2 rfl ?_
        refine f_keys (r := r) (pc' := 98) hB dc_C_arrangeByByte_95 rfl (by omega) q_42 ?_
        refine y_iload (pc' := 100) hB dc_C_arrangeByByte_98 rfl 0 rfl ?_
        refine y_lald (c := 8 + r) (n := 1024) (j := i) (pc' := 101) hB dc_C_arrangeByByte_100 rfl (by unfold yN; omega) (yk_row (by omega)).2.1 (by omega) (by decide) ?_
        refine y_topl (y := (f i).1) (congrArg (fun z => (z i).1) hr3) ?_
        refine y_lload_n (pc' := 102) hB dc_C_arrangeByByte_101 rfl rfl 5 rfl ?_
        refine y_lxor (v := ((f i).1) ^^^ T) (pc' := 103) hB dc_C_arrangeByByte_102 rfl rfl ?_
        refine y_iload (pc' := 105) hB dc_C_arrangeByByte_103 rfl 6 rfl ?_
        refine y_callS (As := [.long (((f i).1) ^^^ T), .int (nI (sh))]) (rest := []) (pc' := 108) hB hE (ct_C_byteOf o.l o.G (yz (sI S 23 h1) q g1) ((f i).1 ^^^ T) sh hs) mm_C_byteOf q_525 q_526 dc_C_arrangeByByte_105 rfl (by decide) rfl rfl (Nat.le_of_ble_eq_true rfl) (fun v S' hpost => ?_)
        obtain ⟨rfl, hSS⟩ := hpost
        rw [hSS]
        clear hSS S'
        show yW o (yz (sI S 23 h1) q g1) 108 [(7, .int (nI (i))), (6, .int (nI (bs))), (0, .ref (o.G.ad (2 + r))), (1, .ref (o.G.ad (2 + q))), (2, .ref (o.G.ad (23))), (3, .long (T)), (5, .int (nI (sh)))] [.int (nI (uN ((f i).1 ^^^ T) / 2 ^ sh % 256))]
        obtain ⟨bv, hbv⟩ : ∃ z, z = zby T sh (f i) := ⟨_, rfl⟩
        have b256 : bv < 256 := by rw [hbv]; exact zby_lt T sh _
        rw [hby i, ← hbv]
        obtain ⟨p, hp⟩ : ∃ z, z = zbs (zby T sh) f n bv + zct (zby T sh) f i bv := ⟨_, rfl⟩
        obtain ⟨m1, m2⟩ := zbucket h (zby_lt T sh) k3
        rw [← hbv, ← hp] at m1 m2
        refine y_istore (pc' := 110) (lv' := [(8, .int (nI (bv))), (7, .int (nI (i))), (6, .int (nI (bs))), (0, .ref (o.G.ad (2 + r))), (1, .ref (o.G.ad (2 + q))), (2, .ref (o.G.ad (23))), (3, .long (T)), (5, .int (nI (sh)))]) hB hm dc_C_arrangeByByte_108 rfl (by decide) rfl ?_
        refine y_aload_n (pc' := 111) hB dc_C_arrangeByByte_110 rfl rfl 4 rfl ?_
        refine y_aload_n (pc' := 112) hB dc_C_arrangeByByte_111 rfl rfl 5 rfl ?_
        refine y_iload (pc' := 114) hB dc_C_arrangeByByte_112 rfl 0 rfl ?_
        refine y_iald (c := 23) (n := 256) (j := bv) (pc' := 115) hB dc_C_arrangeByByte_114 rfl (by decide) rfl (by omega) (by decide) ?_
        refine y_topi (y := nI (p)) (by rw [gI_yz _ (e23 q hq), gI_same, k2 _ b256, hp]) ?_
        refine y_aload_n (pc' := 116) hB dc_C_arrangeByByte_115 rfl rfl 3 rfl ?_
        refine y_iload (pc' := 118) hB dc_C_arrangeByByte_116 rfl 1 rfl ?_
        refine y_callV (c := 2 + q) (ci := 1) (As := [.int (nI (p)), .ref (o.G.ad (2 + r)), .int (nI (i))]) (rest := []) (pc' := 121) hB hE (ct_R_take o.l o.G (yz (sI S 23 h1) q g1) q hq r hr p i (by omega) (by omega)) mm_R_take q_528 q_292 q_293 (by unfold yN; omega) (yk_row (by omega)).1 rfl dc_C_arrangeByByte_118 rfl (by decide) rfl rfl (Nat.le_of_ble_eq_true rfl) (fun v S' hpost => ?_)
        obtain ⟨rfl, hSS⟩ := hpost
        rw [hSS]
        clear hSS S'
        show yW o (yz (yz (sI S 23 h1) q g1) q (va_up (ye (yz (sI S 23 h1) q g1) q) p (ye (yz (sI S 23 h1) q g1) r i))) 121 [(8, .int (nI (bv))), (7, .int (nI (i))), (6, .int (nI (bs))), (0, .ref (o.G.ad (2 + r))), (1, .ref (o.G.ad (2 + q))), (2, .ref (o.G.ad (23))), (3, .long (T)), (5, .int (nI (sh)))] []
        rw [hr3, ye_yz, yz_yz]
        refine y_aload_n (pc' := 122) hB dc_C_arrangeByByte_121 rfl rfl 5 rfl ?_
        refine y_iload (pc' := 124) hB dc_C_arrangeByByte_122 rfl 0 rfl ?_
        refine y_dup2 (pc' := 125) hB dc_C_arrangeByByte_124 rfl rfl rfl ?_
        refine y_iald (c := 23) (n := 256) (j := bv) (pc' := 126) hB dc_C_arrangeByByte_125 rfl (by decide) rfl (by omega) (by decide) ?_
        refine y_topi (y := nI (p)) (by rw [gI_yz _ (e23 q hq), gI_same, k2 _ b256, hp]) ?_
        refine y_iconst (v := nI 1) (pc' := 127) hB dc_C_arrangeByByte_126 rfl rfl ?_
        refine n_iadd (x := p) (y := 1) (pc' := 128) hB dc_C_arrangeByByte_127 rfl ?_
        refine y_iast (c := 23) (n := 256) (j := bv) (pc' := 129) hB dc_C_arrangeByByte_128 rfl (by decide) rfl (by omega) (by decide) ?_
        rw [gI_yz _ (e23 q hq), gI_same, sI_yz _ (e23 q hq), sI_sI]
        refine n_inc (q := 1) (z := 1) (pc' := 132) (lv' := [(7, .int (nI (i + 1))), (8, .int (nI (bv))), (6, .int (nI (bs))), (0, .ref (o.G.ad (2 + r))), (1, .ref (o.G.ad (2 + q))), (2, .ref (o.G.ad (23))), (3, .long (T)), (5, .int (nI (sh)))]) hB hm dc_C_arrangeByByte_129 rfl rfl (by decide) rfl ?_
        refine y_goto (tg := 85) hB dc_C_arrangeByByte_132 rfl ?_
        refine y_sub [0, 2, 3, 4, 5, 6, 7] rfl ?_
        refine ih (i + 1) bs _ _ (by omega) (by omega) (fun v hv => ?_) m2
        rw [zct_s, ← hbv]
        unfold upd
        by_cases e : v = bv
        · subst e; rw [if_pos rfl, if_pos rfl, hp, Nat.add_assoc]
        · rw [if_neg e, if_neg (fun z => e z.symm), Nat.add_zero]; exact k2 v hv
  have second : ∀ (d : Nat) (v bs : Nat) (h1 : Nat → Int32), 256 - v < d → bs = zbs (zby T sh) f n v → v ≤ 256 → (∀ u, u < v → h1 u = nI (zbs (zby T sh) f n u)) → (∀ u, v ≤ u → u < 256 → h1 u = nI (zct (zby T sh) f n u)) → yW o (sI S 23 h1) 49 [(7, .int (nI (v))), (6, .int (nI (bs))), (0, .ref (o.G.ad (2 + r))), (1, .ref (o.G.ad (2 + q))), (2, .ref (o.G.ad (23))), (3, .long (T)), (5, .int (nI (sh)))] [] := by
    intro d
    induction d with
    | zero => intro v bs h1 hd; omega
    | succ d ih =>
      intro v bs h1 hd j0 j1 j2 j3
      refine y_iload (pc' := 51) hB dc_C_arrangeByByte_49 rfl 0 rfl ?_
      refine y_sipush (v := nI 256) (pc' := 54) hB dc_C_arrangeByByte_51 rfl (by decide) ?_
      refine n_icmp_ge (pc' := 57) (tg := 82) hB dc_C_arrangeByByte_54 rfl rfl (by omega) (by omega) (fun h => ?_) (fun h => ?_)
      · refine y_iconst (v := nI 0) (pc' := 83) hB dc_C_arrangeByByte_82 rfl rfl ?_
        refine y_istore (pc' := 85) (lv' := [(7, .int (nI (0))), (6, .int (nI (bs))), (0, .ref (o.G.ad (2 + r))), (1, .ref (o.G.ad (2 + q))), (2, .ref (o.G.ad (23))), (3, .long (T)), (5, .int (nI (sh)))]) hB hm dc_C_arrangeByByte_83 rfl (by decide) rfl ?_
        refine y_sub [0, 1, 2, 3, 4, 5, 6] rfl ?_
        have h0 := third (n + 1) 0 bs h1 (ye (sI S 23 h1) q) (by omega) (by omega) (fun v hv => j2 v (by omega)) (fun v hv => rfl)
        rw [yz_self] at h0
        exact h0
      · refine y_aload_n (pc' := 58) hB dc_C_arrangeByByte_57 rfl rfl 4 rfl ?_
        refine y_iload (pc' := 60) hB dc_C_arrangeByByte_58 rfl 0 rfl ?_
        refine y_iald (c := 23) (n := 256) (j := v) (pc' := 61) hB dc_C_arrangeByByte_60 rfl (by decide) rfl (by omega) (by decide) ?_
        refine y_topi (y := nI (zct (zby T sh) f n v)) (by rw [gI_same]; exact j3 v (Nat.le_refl _) h) ?_
        refine y_istore (pc' := 63) (lv' := [(8, .int (nI (zct (zby T sh) f n v))), (7, .int (nI (v))), (6, .int (nI (bs))), (0, .ref (o.G.ad (2 + r))), (1, .ref (o.G.ad (2 + q))), (2, .ref (o.G.ad (23))), (3, .long (T)), (5, .int (nI (sh)))]) hB hm dc_C_arrangeByByte_61 rfl (by decide) rfl ?_
        refine y_aload_n (pc' := 64) hB dc_C_arrangeByByte_63 rfl rfl 5 rfl ?_
        refine y_iload (pc' := 66) hB dc_C_arrangeByByte_64 rfl 1 rfl ?_
        refine y_iload (pc' := 68) hB dc_C_arrangeByByte_66 rfl 2 rfl ?_
        refine y_iast (c := 23) (n := 256) (j := v) (pc' := 69) hB dc_C_arrangeByByte_68 rfl (by decide) rfl (by omega) (by decide) ?_
        rw [gI_same, sI_sI]
        refine y_iload (pc' := 71) hB dc_C_arrangeByByte_69 rfl 2 rfl ?_
        refine y_iload (pc' := 73) hB dc_C_arrangeByByte_71 rfl 0 rfl ?_
        refine n_iadd (x := bs) (y := zct (zby T sh) f n v) (pc' := 74) hB dc_C_arrangeByByte_73 rfl ?_
        refine y_istore (pc' := 76) (lv' := [(6, .int (nI (bs + (zct (zby T sh) f n v)))), (8, .int (nI (zct (zby T sh) f n v))), (7, .int (nI (v))), (0, .ref (o.G.ad (2 + r))), (1, .ref (o.G.ad (2 + q))), (2, .ref (o.G.ad (23))), (3, .long (T)), (5, .int (nI (sh)))]) hB hm dc_C_arrangeByByte_74 rfl (by decide) rfl ?_
        refine n_inc (q := 2) (z := 1) (pc' := 79) (lv' := [(7, .int (nI (v + 1))), (6, .int (nI (bs + (zct (zby T sh) f n v)))), (8, .int (nI (zct (zby T sh) f n v))), (0, .ref (o.G.ad (2 + r))), (1, .ref (o.G.ad (2 + q))), (2, .ref (o.G.ad (23))), (3, .long (T)), (5, .int (nI (sh)))]) hB hm dc_C_arrangeByByte_76 rfl rfl (by decide) rfl ?_
        refine y_goto (tg := 49) hB dc_C_arrangeByByte_79 rfl ?_
        refine y_sub [0, 1, 3, 4, 5, 6, 7] rfl ?_
        refine ih (v + 1) _ _ (by omega) (by rw [zbs_s, j0]) (by omega) (fun u hu => ?_) (fun u q1 q2 => ?_)
        · unfold upd
          by_cases e : u = v
          · subst e; rw [if_pos rfl, j0]
          · rw [if_neg e]; exact j2 u (by omega)
        · unfold upd
          rw [if_neg (by omega)]
          exact j3 u (by omega) q2
  refine y_iconst (v := nI 0) (pc' := 6) hB dc_C_arrangeByByte_5 rfl rfl ?_
  refine y_istore (pc' := 8) (lv' := [(6, .int (nI (0))), (0, .ref (o.G.ad (2 + r))), (1, .ref (o.G.ad (2 + q))), (2, .ref (o.G.ad (23))), (3, .long (T)), (5, .int (nI (sh)))]) hB hm dc_C_arrangeByByte_6 rfl (by decide) rfl ?_
  have loop : ∀ (d : Nat) (i : Nat) (h1 : Nat → Int32), n - i < d → i ≤ n → (∀ v, v < 256 → h1 v = nI (zct (zby T sh) f i v)) → yW o (sI S 23 h1) 8 [(6, .int (nI (i))), (0, .ref (o.G.ad (2 + r))), (1, .ref (o.G.ad (2 + q))), (2, .ref (o.G.ad (23))), (3, .long (T)), (5, .int (nI (sh)))] [] := by
    intro d
    induction d with
    | zero => intro i h1 hd; omega
    | succ d ih =>
      intro i h1 hd k1 k2
      refine y_iload (pc' := 10) hB dc_C_arrangeByByte_8 rfl 0 rfl ?_
      refine y_aload_n (pc' := 11) hB dc_C_arrangeByByte_10 rfl rfl 1 rfl ?_
      refine f_count (r := r) (pc' := 14) hB dc_C_arrangeByByte_11 rfl (by omega) q_55 ?_
      refine y_topi (y := nI (n)) hc ?_
      refine n_icmp_ge (pc' := 17) (tg := 43) hB dc_C_arrangeByByte_14 rfl rfl (by omega) (by omega) (fun h => ?_) (fun h => ?_)
      · have e : i = n := by omega
        subst e
        refine y_iconst (v := nI 0) (pc' := 44) hB dc_C_arrangeByByte_43 rfl rfl ?_
        refine y_istore (pc' := 46) (lv' := [(6, .int (nI (0))), (0, .ref (o.G.ad (2 + r))), (1, .ref (o.G.ad (2 + q))), (2, .ref (o.G.ad (23))), (3, .long (T)), (5, .int (nI (sh)))]) hB hm dc_C_arrangeByByte_44 rfl (by decide) rfl ?_
        refine y_iconst (v := nI 0) (pc' := 47) hB dc_C_arrangeByByte_46 rfl rfl ?_
        refine y_istore (pc' := 49) (lv' := [(7, .int (nI (0))), (6, .int (nI (0))), (0, .ref (o.G.ad (2 + r))), (1, .ref (o.G.ad (2 + q))), (2, .ref (o.G.ad (23))), (3, .long (T)), (5, .int (nI (sh)))]) hB hm dc_C_arrangeByByte_47 rfl (by decide) rfl ?_
        refine y_sub [0, 1, 2, 3, 4, 5, 6] rfl ?_
        exact second 257 0 0 h1 (by omega) rfl (by omega) (fun u hu => by omega) (fun u q1 q2 => k2 u q2)
      · have hr1 : ye (sI S 23 h1) r = f := by rw [ye_sI _ (e23 r hr), hf]
        refine y_aload_n (pc' := 18) hB dc_C_arrangeByByte_17 rfl rfl 3 rfl ?_
        refine y_aload_n (pc' := 19) hB dc_C_arrangeByByte_18 rfl rfl 1 rfl ?_
        refine f_keys (r := r) (pc' := 22) hB dc_C_arrangeByByte_19 rfl (by omega) q_42 ?_
        refine y_iload (pc' := 24) hB dc_C_arrangeByByte_22 rfl 0 rfl ?_
        refine y_lald (c := 8 + r) (n := 1024) (j := i) (pc' := 25) hB dc_C_arrangeByByte_24 rfl (by unfold yN; omega) (yk_row (by omega)).2.1 (by omega) (by decide) ?_
        refine y_topl (y := (f i).1) (congrArg (fun z => (z i).1) hr1) ?_
        refine y_lload_n (pc' := 26) hB dc_C_arrangeByByte_25 rfl rfl 4 rfl ?_
        refine y_lxor (v := ((f i).1) ^^^ T) (pc' := 27) hB dc_C_arrangeByByte_26 rfl rfl ?_
        refine y_iload (pc' := 29) hB dc_C_arrangeByByte_27 rfl 5 rfl ?_
        refine y_callS (As := [.long (((f i).1) ^^^ T), .int (nI (sh))]) (rest := [.ref (o.G.ad (23))]) (pc' := 32) hB hE (ct_C_byteOf o.l o.G (sI S 23 h1) ((f i).1 ^^^ T) sh hs) mm_C_byteOf q_525 q_526 dc_C_arrangeByByte_29 rfl (by decide) rfl rfl (Nat.le_of_ble_eq_true rfl) (fun v S' hpost => ?_)
        obtain ⟨rfl, hSS⟩ := hpost
        rw [hSS]
        clear hSS S'
        show yW o (sI S 23 h1) 32 [(6, .int (nI (i))), (0, .ref (o.G.ad (2 + r))), (1, .ref (o.G.ad (2 + q))), (2, .ref (o.G.ad (23))), (3, .long (T)), (5, .int (nI (sh)))] [.int (nI (uN ((f i).1 ^^^ T) / 2 ^ sh % 256)), .ref (o.G.ad (23))]
        obtain ⟨bv, hbv⟩ : ∃ z, z = zby T sh (f i) := ⟨_, rfl⟩
        have b256 : bv < 256 := by rw [hbv]; exact zby_lt T sh _
        rw [hby i, ← hbv]
        refine y_dup2 (pc' := 33) hB dc_C_arrangeByByte_32 rfl rfl rfl ?_
        refine y_iald (c := 23) (n := 256) (j := bv) (pc' := 34) hB dc_C_arrangeByByte_33 rfl (by decide) rfl (by omega) (by decide) ?_
        refine y_topi (y := nI (zct (zby T sh) f i bv)) (by rw [gI_same]; exact k2 _ b256) ?_
        refine y_iconst (v := nI 1) (pc' := 35) hB dc_C_arrangeByByte_34 rfl rfl ?_
        refine n_iadd (x := zct (zby T sh) f i bv) (y := 1) (pc' := 36) hB dc_C_arrangeByByte_35 rfl ?_
        refine y_iast (c := 23) (n := 256) (j := bv) (pc' := 37) hB dc_C_arrangeByByte_36 rfl (by decide) rfl (by omega) (by decide) ?_
        rw [gI_same, sI_sI]
        refine n_inc (q := 0) (z := 1) (pc' := 40) (lv' := [(6, .int (nI (i + 1))), (0, .ref (o.G.ad (2 + r))), (1, .ref (o.G.ad (2 + q))), (2, .ref (o.G.ad (23))), (3, .long (T)), (5, .int (nI (sh)))]) hB hm dc_C_arrangeByByte_37 rfl rfl (by decide) rfl ?_
        refine y_goto (tg := 8) hB dc_C_arrangeByByte_40 rfl ?_
        refine y_sub [0, 1, 2, 3, 4, 5] rfl ?_
        refine ih (i + 1) _ (by omega) (by omega) (fun v hv => ?_)
        rw [zct_s, ← hbv]
        unfold upd
        by_cases e : v = bv
        · subst e; rw [if_pos rfl, if_pos rfl]
        · rw [if_neg e, if_neg (fun z => e z.symm), Nat.add_zero]; exact k2 v hv
  exact loop (n + 1) 0 _ (by omega) (by omega) (fun v hv => if_pos hv)
