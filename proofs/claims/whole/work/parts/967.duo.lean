/-! BOTH SIDES: the same picture -/
/-- as yU, the law's own array aside -/
def yU2 (S T : YS) : Prop := (∀ q, q < 4 → ye T q = ye S q ∧ gF T (2 + q) 2 = gF S (2 + q) 2) ∧ gI T 22 0 = gI S 22 0 ∧ gF T 0 6 = gF S 0 6 ∧ (∀ c, 24 ≤ c → (c ≠ 31 → gL T c = gL S c) ∧ gI T c = gI S c ∧ ∀ k, gF T c k = gF S c k)
theorem yU.two {S T : YS} (h : yU S T) : yU2 S T := ⟨h.1, h.2.1, h.2.2.1, fun c hc => ⟨fun _ => (h.2.2.2 c hc).1, (h.2.2.2 c hc).2⟩⟩
theorem yU.out {S T : YS} (h : yU S T) (f : Nat → Int64) : yU2 S (sL T 31 f) := by
  refine ⟨fun q hq => ⟨?_, (h.1 q hq).2⟩, h.2.1, h.2.2.1, fun c hc => ⟨fun hne => ?_, (h.2.2.2 c hc).2.1, (h.2.2.2 c hc).2.2⟩⟩
  · rw [← (h.1 q hq).1]
    funext j
    unfold ye
    rw [gL_sL, if_neg (by omega), gI_sL]
  · rw [gL_sL, if_neg hne]
    exact (h.2.2.2 c hc).1
theorem out_0 (T : YS) (v : Int64) : gL (sL T 31 (vp_updL (gL T 31) 0 v)) 31 0 = v := by
  rw [gL_sL, if_pos rfl]
  unfold vp_updL
  exact if_pos rfl
theorem yU2.ze {S T : YS} (h : yU2 S T) (q : Nat) : ze4 T q = ze4 S q := by
  funext j
  unfold ze4
  rw [(h.2.2.2 25 (by decide)).1 (by decide), (h.2.2.2 26 (by decide)).2.1]
theorem yU2.n27 {S T : YS} (h : yU2 S T) : gI T 27 = gI S 27 := (h.2.2.2 27 (by decide)).2.1
/-- both sides hold the same rows; what a run keeps -/
def yInv (S : YS) : Prop := (∀ q, q < 4 → ∃ n : Nat, n ≤ 1024 ∧ gF S (2 + q) 2 = nI n ∧ gI S 27 q = nI n ∧ ∀ j, j < n → ye S q j = ze4 S q j) ∧ gI S 22 0 = nI 0 ∧ gF S 0 6 = nI 1
theorem yInv.U {S T : YS} (hI : yInv S) (h : yU2 S T) : yInv T := by
  refine ⟨fun q hq => ?_, h.2.1.trans hI.2.1, h.2.2.1.trans hI.2.2⟩
  obtain ⟨n, h1, h2, h3, h4⟩ := hI.1 q hq
  exact ⟨n, h1, (h.1 q hq).2.trans h2, by rw [h.n27]; exact h3, fun j hj => by rw [(h.1 q hq).1, h.ze]; exact h4 j hj⟩
/-- what a call of the reference that writes nothing of its rows may change -/
def mO (A B : YS) : Prop := (∀ c, c < 28 → c ≠ 24 → gL B c = gL A c ∧ gI B c = gI A c ∧ ∀ j, gF B c j = gF A c j) ∧ gL B 31 = gL A 31
theorem mO.yee {A B : YS} (h : mO A B) {q : Nat} (hq : q < 4) : ye B q = ye A q := by
  funext j
  unfold ye
  rw [(h.1 (8 + q) (by omega) (by omega)).1, (h.1 (14 + q) (by omega) (by omega)).2.1]
theorem mO.ze {A B : YS} (h : mO A B) (q : Nat) : ze4 B q = ze4 A q := by
  funext j
  unfold ze4
  rw [(h.1 25 (by decide) (by decide)).1, (h.1 26 (by decide) (by decide)).2.1]
theorem yInv.O {A B : YS} (hI : yInv A) (h : mO A B) : yInv B := by
  refine ⟨fun q hq => ?_, by rw [(h.1 22 (by decide) (by decide)).2.1]; exact hI.2.1, by rw [(h.1 0 (by decide) (by decide)).2.2]; exact hI.2.2⟩
  obtain ⟨n, h1, h2, h3, h4⟩ := hI.1 q hq
  exact ⟨n, h1, by rw [(h.1 (2 + q) (by omega) (by omega)).2.2]; exact h2, by rw [(h.1 27 (by decide) (by decide)).2.1]; exact h3, fun j hj => by rw [h.yee hq, h.ze]; exact h4 j hj⟩
theorem mO_yx (A : YS) (c : Nat) : mO A (yx A c) := ⟨fun c' h1 h2 => ⟨rfl, rfl, fun j => by unfold yx; rw [gF_sF, if_neg (fun z => h2 z.1)]⟩, rfl⟩
theorem mO.tr {A B C : YS} (h : mO A B) (k : mO B C) : mO A C := ⟨fun c h1 h2 => ⟨(k.1 c h1 h2).1.trans (h.1 c h1 h2).1, (k.1 c h1 h2).2.1.trans (h.1 c h1 h2).2.1, fun j => ((k.1 c h1 h2).2.2 j).trans ((h.1 c h1 h2).2.2 j)⟩, k.2.trans h.2⟩
theorem mO_mW (A : YS) (f : Nat → Int64 × Int32) (m : Nat) : mO A (mW A f m) := by
  refine ⟨fun c h1 h2 => ⟨?_, ?_, fun j => ?_⟩, ?_⟩
  · unfold mW; rw [gL_sF, gL_sI, gL_sL, if_neg (by omega)]
  · unfold mW; rw [gI_sF, gI_sI, if_neg (by omega), gI_sL]
  · unfold mW; rw [gF_sF, if_neg (fun z => h2 z.1), gF_sI, gF_sL]
  · unfold mW; rw [gL_sF, gL_sI, gL_sL, if_neg (by decide)]
theorem mO_30 (A : YS) (h : Nat → Int32) : mO A (sI A 30 h) := ⟨fun c h1 h2 => ⟨rfl, by rw [gI_sI, if_neg (by omega)], fun j => rfl⟩, rfl⟩
/-- the reference has written its row k -/
def mR (A B : YS) (k n : Nat) (h : Nat → Int64 × Int32) : Prop :=
  (∀ c, c < 24 → gL B c = gL A c ∧ gI B c = gI A c ∧ ∀ j, gF B c j = gF A c j) ∧ gL B 31 = gL A 31 ∧ gF B 24 0 = nI 0 ∧ gI B 27 k = nI n ∧ (∀ q, q < 4 → q ≠ k → gI B 27 q = gI A 27 q ∧ ∀ j, j < 1024 → ze4 B q j = ze4 A q j) ∧ ∀ j, j < n → ze4 B k j = h j
/-- the class has written its row k, then the reference: the same rows again -/
theorem yInv_w {S A B : YS} {k n : Nat} {f h : Nat → Int64 × Int32} (hI : yInv S) (hk : k < 4) (hn : n ≤ 1024) (hA : yU2 (sF (yz S k f) (2 + k) 2 (nI n)) A) (hB : mR A B k n h) (he : ∀ j, j < n → f j = h j) : yInv B := by
  obtain ⟨b1, b2, b3, b4, b5, b6⟩ := hB
  have hye : ∀ q, q < 4 → ye B q = ye A q := fun q hq => by
    funext j
    unfold ye
    rw [(b1 (8 + q) (by omega)).1, (b1 (14 + q) (by omega)).2.1]
  refine ⟨fun q hq => ?_, ?_, ?_⟩
  · by_cases e : q = k
    · subst e
      refine ⟨n, hn, ?_, b4, fun j hj => ?_⟩
      · rw [(b1 (2 + q) (by omega)).2.2, (hA.1 q hq).2, gF_sF, if_pos ⟨rfl, rfl⟩]
      · rw [hye q hq, (hA.1 q hq).1, ye_sF, ye_yz, b6 j hj]
        exact he j hj
    · obtain ⟨m, h1, h2, h3, h4⟩ := hI.1 q hq
      obtain ⟨c1, c2⟩ := b5 q hq e
      refine ⟨m, h1, ?_, ?_, fun j hj => ?_⟩
      · rw [(b1 (2 + q) (by omega)).2.2, (hA.1 q hq).2, gF_sF, if_neg (by omega)]
        exact h2
      · rw [c1, hA.n27]
        show gI (sF (yz S k f) (2 + k) 2 (nI n)) 27 q = nI m
        rw [gI_sF, gI_yz _ (by omega)]
        exact h3
      · rw [hye q hq, (hA.1 q hq).1, ye_sF, ye_yz_ne _ _ e, c2 j (by omega), hA.ze]
        have hz : ze4 (sF (yz S k f) (2 + k) 2 (nI n)) q j = ze4 S q j := by
          unfold ze4
          rw [gL_sF, gI_sF, gI_yz _ (by omega)]
          unfold yz
          rw [gL_sI, gL_sL, if_neg (by omega)]
        rw [hz]
        exact h4 j hj
  · rw [(b1 22 (by decide)).2.1, hA.2.1, gI_sF, gI_yz _ (by omega)]
    exact hI.2.1
  · rw [(b1 0 (by decide)).2.2, hA.2.2.1, gF_sF, if_neg (by omega)]
    exact hI.2.2
theorem sF_same {S : YS} {c k : Nat} {v : Int32} (h : gF S c k = v) : sF S c k v = S := by
  refine YS_ext (fun c => rfl) (fun c => rfl) (fun c' k' => ?_)
  rw [gF_sF]
  split
  · rename_i e; rw [e.1, e.2, h]
  · rfl
/-- the reference's row by its keys and tags -/
theorem mR_of {A B : YS} {k n : Nat} {h : Nat → Int64 × Int32} {K : Nat → Int64} {T : Nat → Int32} (hk : k < 4) (hn : n ≤ 1024) (h1 : ∀ c, c < 24 → gL B c = gL A c ∧ gI B c = gI A c ∧ ∀ j, gF B c j = gF A c j) (h2 : gL B 31 = gL A 31) (h3 : gF B 24 0 = nI 0) (h4 : gI B 27 = upd (gI A 27) k (nI n)) (h5 : gL B 25 = K) (h6 : gI B 26 = T) {N : Nat} (hN : N ≤ 1024) (h7 : ∀ j, j < 1024 * k ∨ 1024 * k + N ≤ j → K j = gL A 25 j ∧ T j = gI A 26 j) (h8 : ∀ j, j < n → (K (1024 * k + j), T (1024 * k + j)) = h j) : mR A B k n h := by
  refine ⟨h1, h2, h3, ?_, fun q hq hne => ⟨?_, fun j hj => ?_⟩, fun j hj => ?_⟩
  · rw [h4]; unfold upd; rw [if_pos rfl]
  · rw [h4]; unfold upd; rw [if_neg hne]
  · unfold ze4
    rw [h5, h6, (h7 _ (by omega)).1, (h7 _ (by omega)).2]
  · unfold ze4
    rw [h5, h6]
    exact h8 j hj
theorem sz_a (A : YS) (f : Nat → Int64 × Int32) (m : Nat) (K : Nat → Int64) (T U : Nat → Int32) : (∀ c, c < 24 → gL (sI (mK (mW (yx A 0) f m) K T) 27 U) c = gL A c ∧ gI (sI (mK (mW (yx A 0) f m) K T) 27 U) c = gI A c ∧ ∀ j, gF (sI (mK (mW (yx A 0) f m) K T) 27 U) c j = gF A c j) ∧ gL (sI (mK (mW (yx A 0) f m) K T) 27 U) 31 = gL A 31 ∧ gF (sI (mK (mW (yx A 0) f m) K T) 27 U) 24 0 = nI 0 ∧ gI (sI (mK (mW (yx A 0) f m) K T) 27 U) 27 = U ∧ gL (sI (mK (mW (yx A 0) f m) K T) 27 U) 25 = K ∧ gI (sI (mK (mW (yx A 0) f m) K T) 27 U) 26 = T := by
  have hw := mO_mW (yx A 0) f m
  have hx := mO_yx A 0
  refine ⟨fun c hc => ⟨?_, ?_, fun j => ?_⟩, ?_, ?_, gI_same (mK (mW (yx A 0) f m) K T) 27 U, mK_K (mW (yx A 0) f m) K T, ?_⟩
  · rw [gL_sI, mK_L _ _ _ (by omega), (hw.1 c (by omega) (by omega)).1, (hx.1 c (by omega) (by omega)).1]
  · rw [gI_sI, if_neg (by omega), mK_I _ _ _ (by omega), (hw.1 c (by omega) (by omega)).2.1, (hx.1 c (by omega) (by omega)).2.1]
  · show gF (mW (yx A 0) f m) c j = _
    rw [(hw.1 c (by omega) (by omega)).2.2, (hx.1 c (by omega) (by omega)).2.2]
  · rw [gL_sI, mK_L _ _ _ (by decide), hw.2, hx.2]
  · show gF (mW (yx A 0) f m) 24 0 = _
    unfold mW
    rw [gF_sF, if_neg (by decide)]
    exact yx_c A 0
  · rw [gI_sI, if_neg (by decide)]; exact mK_T _ K T
theorem sz_b (A : YS) (K : Nat → Int64) (T U : Nat → Int32) : (∀ c, c < 24 → gL (sI (mK (yx A 0) K T) 27 U) c = gL A c ∧ gI (sI (mK (yx A 0) K T) 27 U) c = gI A c ∧ ∀ j, gF (sI (mK (yx A 0) K T) 27 U) c j = gF A c j) ∧ gL (sI (mK (yx A 0) K T) 27 U) 31 = gL A 31 ∧ gF (sI (mK (yx A 0) K T) 27 U) 24 0 = nI 0 ∧ gI (sI (mK (yx A 0) K T) 27 U) 27 = U ∧ gL (sI (mK (yx A 0) K T) 27 U) 25 = K ∧ gI (sI (mK (yx A 0) K T) 27 U) 26 = T := by
  have hx := mO_yx A 0
  refine ⟨fun c hc => ⟨?_, ?_, fun j => ?_⟩, ?_, ?_, gI_same (mK (yx A 0) K T) 27 U, mK_K (yx A 0) K T, ?_⟩
  · rw [gL_sI, mK_L _ _ _ (by omega), (hx.1 c (by omega) (by omega)).1]
  · rw [gI_sI, if_neg (by omega), mK_I _ _ _ (by omega), (hx.1 c (by omega) (by omega)).2.1]
  · show gF (yx A 0) c j = _
    rw [(hx.1 c (by omega) (by omega)).2.2]
  · rw [gL_sI, mK_L _ _ _ (by decide), hx.2]
  · exact yx_c A 0
  · rw [gI_sI, if_neg (by decide)]; exact mK_T _ K T
theorem sz_c (A : YS) (K : Nat → Int64) (T U : Nat → Int32) : mK (sI (yx A 0) 27 U) K T = sI (mK (yx A 0) K T) 27 U := by
  refine YS_ext (fun c => rfl) (fun c => ?_) (fun c k => rfl)
  show gI (sI (sL (sI (yx A 0) 27 U) 25 K) 26 T) c = gI (sI (sI (sL (yx A 0) 25 K) 26 T) 27 U) c
  simp only [gI_sI, gI_sL]
  by_cases e : c = 26
  · rw [if_pos e, if_neg (by omega), if_pos e]
  · rw [if_neg e, if_neg e]
/-! A call of the law: the helper, then the reference -/
abbrev yD4 : Type := Option Value → Int64 → Nat → Prop
def dI : yD4 := fun v x c => ∃ r : Int32, v = some (.int r) ∧ (c = 0 → x = Int32.toInt64 r)
def dJ : yD4 := fun v x c => ∃ r : Int64, v = some (.long r) ∧ (c = 0 → x = r)
def dZ : yD4 := fun v x c => ∃ r : Bool, v = some (.int (yb r)) ∧ (c = 0 → x = if r then 1 else 0)
def dV : yD4 := fun v _ _ => v = none
def yDuo (l : Launch) (g : YG) (S : YS) (y : MethodName) (b : ByteArray) (n : Nat) (hh : List (Nat × Nat × Nat × Nat)) (aH : List Value) (z : MethodName) (b2 : ByteArray) (n2 : Nat) (ret2 : Option FieldType) (aM : List Value) (d : yD4) : Prop :=
  ∃ (c : Nat) (P : YS → Prop), c < 4 ∧ yHC l y b n (some .int) hh 32 g aH S (fun v S' => v = some (.int (nI c)) ∧ P S') ∧
    ∀ S1, P S1 → ∃ lev, lev ≤ 30 ∧ yC l z b2 n2 ret2 lev g aM S1 (fun v S2 => d v (gL S2 31 0) c ∧ gF S2 24 0 = nI c ∧ yInv S2)
section YDU
variable {l : Launch} {g : YG} {S : YS} {y : MethodName} {b : ByteArray} {n : Nat} {hh : List (Nat × Nat × Nat × Nat)} {aH : List Value} {z : MethodName} {b2 : ByteArray} {n2 : Nat} {ret2 : Option FieldType} {aM : List Value} {d : yD4}
/-- both refuse -/
theorem duo_x (c : Nat) (hc : c < 4) (hI : yInv S) (hH : yHC l y b n (some .int) hh 32 g aH S (fun v S' => v = some (.int (nI c)) ∧ yU S S')) (dv : Option Value) (hd : ∀ x, d dv x c) (hM : ∀ S1, yU S S1 → yC l z b2 n2 ret2 5 g aM S1 (fun v S' => v = dv ∧ S' = yx S1 c)) : yDuo l g S y b n hh aH z b2 n2 ret2 aM d :=
  ⟨c, yU S, hc, hH, fun S1 h1 => ⟨5, by decide, (hM S1 h1).mono (fun v S2 q => by
    obtain ⟨rfl, rfl⟩ := q
    exact ⟨hd _, yx_c S1 c, (hI.U h1.two).O (mO_yx S1 c)⟩)⟩⟩
theorem dI_x {c : Nat} (h : c ≠ 0) : ∀ x, dI (some (.int (nI 0))) x c := fun _ => ⟨_, rfl, fun e => absurd e h⟩
theorem dJ_x {c : Nat} (h : c ≠ 0) : ∀ x, dJ (some (.long 0)) x c := fun _ => ⟨_, rfl, fun e => absurd e h⟩
theorem dZ_x {c : Nat} (h : c ≠ 0) : ∀ x, dZ (some (.int (nI 0))) x c := fun _ => ⟨false, rfl, fun e => absurd e h⟩
theorem dV_x {c : Nat} : ∀ x, dV none x c := fun _ => rfl
end YDU
