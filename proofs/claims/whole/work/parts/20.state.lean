/-! THE PURE STATE: arrays of longs and of ints and fields of ints, by the number of their cell. Cells: 0 the bench; 1 its array of rows; 2 to 7 the rows (four, the desk, the spare one); 8 to 13 their keys; 14 to 19 their tags; 20 the judge; 21 the pile; 22 its borders; 23 the counts; 24 the reference; 25 to 30 its arrays; 31 the law's own array -/
abbrev YS : Type := (Nat → Nat → Int64) × (Nat → Nat → Int32) × (Nat → Nat → Int32)
def gL (S : YS) (c : Nat) : Nat → Int64 := S.1 c
def gI (S : YS) (c : Nat) : Nat → Int32 := S.2.1 c
def gF (S : YS) (c k : Nat) : Int32 := S.2.2 c k
def sL (S : YS) (c : Nat) (f : Nat → Int64) : YS := (va_up S.1 c f, S.2.1, S.2.2)
def sI (S : YS) (c : Nat) (f : Nat → Int32) : YS := (S.1, va_up S.2.1 c f, S.2.2)
def sF (S : YS) (c k : Nat) (v : Int32) : YS := (S.1, S.2.1, va_up S.2.2 c (upd (S.2.2 c) k v))
theorem gL_sL (S : YS) (c c' : Nat) (f : Nat → Int64) : gL (sL S c f) c' = if c' = c then f else gL S c' := rfl
theorem gL_sI (S : YS) (c c' : Nat) (f : Nat → Int32) : gL (sI S c f) c' = gL S c' := rfl
theorem gL_sF (S : YS) (c k c' : Nat) (v : Int32) : gL (sF S c k v) c' = gL S c' := rfl
theorem gI_sL (S : YS) (c c' : Nat) (f : Nat → Int64) : gI (sL S c f) c' = gI S c' := rfl
theorem gI_sI (S : YS) (c c' : Nat) (f : Nat → Int32) : gI (sI S c f) c' = if c' = c then f else gI S c' := rfl
theorem gI_sF (S : YS) (c k c' : Nat) (v : Int32) : gI (sF S c k v) c' = gI S c' := rfl
theorem gF_sL (S : YS) (c c' k' : Nat) (f : Nat → Int64) : gF (sL S c f) c' k' = gF S c' k' := rfl
theorem gF_sI (S : YS) (c c' k' : Nat) (f : Nat → Int32) : gF (sI S c f) c' k' = gF S c' k' := rfl
theorem gF_sF (S : YS) (c k c' k' : Nat) (v : Int32) : gF (sF S c k v) c' k' = if c' = c ∧ k' = k then v else gF S c' k' := by
  unfold gF sF va_up upd
  by_cases h : c' = c
  · subst h
    by_cases h2 : k' = k <;> simp [h2]
  · simp [h]
def yN : Nat := 32
/-- a cell's kind (0 an object, 1 longs, 2 ints, 3 rows) and its class or length -/
def yk (c : Nat) : Nat × Nat :=
  if c = 0 then (0, 0) else if c = 1 then (3, 4) else if c < 8 then (0, 1) else if c < 14 then (1, 1024) else if c < 20 then (2, 1024) else if c = 20 then (0, 2) else if c = 21 then (0, 3) else if c = 22 then (2, 66) else if c = 23 then (2, 256) else if c = 24 then (0, 4) else if c = 25 then (1, 4096) else if c = 26 then (2, 4096) else if c = 27 then (2, 4) else if c = 28 then (1, 2048) else if c = 29 then (2, 2048) else if c = 30 then (2, 1024) else (1, 1)
/-- an object's fields -/
def yo (ad : Nat → Nat) (S : YS) (c : Nat) : List Value :=
  if c = 0 then [.ref (ad 1), .ref (ad 6), .ref (ad 7), .ref (ad 20), .ref (ad 21), .ref (ad 23), .int (gF S 0 6)]
  else if c < 8 then [.ref (ad (c + 6)), .ref (ad (c + 12)), .int (gF S c 2)]
  else if c = 20 then [.int (gF S 20 0), .int (gF S 20 1), .int (gF S 20 2)]
  else if c = 21 then [.ref (ad 7), .ref (ad 20), .ref (ad 22), .int (gF S 21 3)]
  else [.int (gF S 24 0), .ref (ad 25), .ref (ad 26), .ref (ad 27), .ref (ad 28), .ref (ad 29), .int (gF S 24 6), .ref (ad 30)]
def yc (g : YG) (S : YS) (c : Nat) : va_E :=
  if (yk c).1 = 0 then .inr ((yk c).2, yo g.ad S c)
  else if (yk c).1 = 1 then .inl (g.ca 1, (yk c).2, .inr (.inl (gL S c)))
  else if (yk c).1 = 2 then .inl (g.ca 0, (yk c).2, .inl (gI S c))
  else .inl (g.ca 2, (yk c).2, .inr (.inr (.inr (.inr (fun i => some (g.ad (2 + i)))))))
def yw (g : YG) (S : YS) : va_W := (List.range yN).map (fun c => (g.ad c, yc g S c))
theorem yw_get {g : YG} {S : YS} {c : Nat} (h : c < yN) : (yw g S)[c]? = some (g.ad c, yc g S c) := by simp [yw, h]
theorem yw_set {g : YG} {S S' : YS} {c : Nat} {e : va_E} (h : c < yN) (he : yc g S' c = e) (ho : ∀ i, i < yN → i ≠ c → yc g S' i = yc g S i) : (yw g S).set c (g.ad c, e) = yw g S' := by
  apply List.ext_getElem?
  intro i
  by_cases hi : i < yN
  · rw [yw_get hi]
    by_cases hc : i = c
    · subst hc
      rw [List.getElem?_set_self (by simp [yw, hi]), he]
    · rw [List.getElem?_set_ne (fun q => hc q.symm), yw_get hi, ho i hi hc]
  · rw [List.getElem?_eq_none (by simp [yw]; omega), List.getElem?_eq_none (by simp [yw]; omega)]
theorem yc_o {g : YG} {S : YS} {c ci : Nat} (h : yk c = (0, ci)) : yc g S c = .inr (ci, yo g.ad S c) := by simp [yc, h]
theorem yc_L {g : YG} {S : YS} {c n : Nat} (h : yk c = (1, n)) : yc g S c = .inl (g.ca 1, n, .inr (.inl (gL S c))) := by simp [yc, h]
theorem yc_I {g : YG} {S : YS} {c n : Nat} (h : yk c = (2, n)) : yc g S c = .inl (g.ca 0, n, .inl (gI S c)) := by simp [yc, h]
theorem yc_R {g : YG} {S : YS} : yc g S 1 = .inl (g.ca 2, 4, .inr (.inr (.inr (.inr (fun i => some (g.ad (2 + i))))))) := by simp [yc, yk]
theorem yo_sL (ad : Nat → Nat) (S : YS) (c : Nat) (f : Nat → Int64) (i : Nat) : yo ad (sL S c f) i = yo ad S i := rfl
theorem yo_sI (ad : Nat → Nat) (S : YS) (c : Nat) (f : Nat → Int32) (i : Nat) : yo ad (sI S c f) i = yo ad S i := rfl
theorem yc_sL {g : YG} {S : YS} {c i : Nat} {f : Nat → Int64} (h : i ≠ c) : yc g (sL S c f) i = yc g S i := by
  unfold yc
  rw [yo_sL, gL_sL, if_neg h, gI_sL]
theorem yc_sI {g : YG} {S : YS} {c i : Nat} {f : Nat → Int32} (h : i ≠ c) : yc g (sI S c f) i = yc g S i := by
  unfold yc
  rw [yo_sI, gL_sI, gI_sI, if_neg h]
theorem yk_obj : ∀ i, i < 32 → (yk i).1 = 0 → i < 8 ∨ i = 20 ∨ i = 21 ∨ i = 24 := by decide
/-- an int field is written -/
theorem yo_ne {ad : Nat → Nat} {S : YS} {c k i : Nat} {v : Int32} (h : i ≠ c) (h2 : i < yN) (hk : (yk i).1 = 0) : yo ad (sF S c k v) i = yo ad S i := by
  have key : ∀ j, gF (sF S c k v) i j = gF S i j := fun j => by rw [gF_sF, if_neg (fun q => h q.1)]
  unfold yo
  unfold yN at h2
  by_cases h0 : i = 0
  · subst h0; simp [key]
  · by_cases h8 : i < 8
    · simp [h0, h8, key]
    · by_cases h20 : i = 20
      · subst h20; simp [key]
      · by_cases h21 : i = 21
        · subst h21; simp [key]
        · have h24 : i = 24 := by
            have := yk_obj i h2 hk
            omega
          subst h24
          simp [key]
theorem yc_sF {g : YG} {S : YS} {c k i : Nat} {v : Int32} (h : i ≠ c) (hi : i < yN) : yc g (sF S c k v) i = yc g S i := by
  unfold yc
  rw [gL_sF, gI_sF]
  by_cases hk : (yk i).1 = 0
  · rw [yo_ne h hi hk]
  · simp [hk]
theorem yk_row {r : Nat} (h : r < 6) : yk (2 + r) = (0, 1) ∧ yk (8 + r) = (1, 1024) ∧ yk (14 + r) = (2, 1024) := by
  rcases (by omega : r = 0 ∨ r = 1 ∨ r = 2 ∨ r = 3 ∨ r = 4 ∨ r = 5) with rfl | rfl | rfl | rfl | rfl | rfl <;> decide
theorem yo_row {ad : Nat → Nat} {S : YS} {r : Nat} (h : r < 6) : yo ad S (2 + r) = [.ref (ad (8 + r)), .ref (ad (14 + r)), .int (gF S (2 + r) 2)] := by
  unfold yo
  rw [if_neg (by omega), if_pos (by omega), show 2 + r + 6 = 8 + r by omega, show 2 + r + 12 = 14 + r by omega]
def yt (ca : Nat → ClassId) : List (ClassId × FieldType) := [(ca 0, .int), (ca 1, .long), (ca 2, .object "OrderBench$Row")]
/-- what stands through a walk -/
def yF (g : YG) (s : State) : Prop := va_K g.D ycl (yt g.ca) s ∧ yT s ∧ (∀ i j, i < yN → j < yN → g.ad i = g.ad j → i = j) ∧ (∀ i, i < yN → g.B ≤ g.ad i) ∧ g.B ≤ s.heap.size ∧ yXt g s
theorem yw_D {g : YG} {s : State} (h : yF g s) (S : YS) : va_D (yA g.B) (yw g S) := by
  have key : ∀ (k : Nat) (q : Nat × va_E), (yw g S)[k]? = some q → k < yN ∧ q.1 = g.ad k := by
    intro k q hk
    have hl : k < yN := by
      have := (List.getElem?_eq_some_iff.mp hk).1
      simpa [yw] using this
    rw [yw_get hl] at hk
    cases hk
    exact ⟨hl, rfl⟩
  refine ⟨fun i j p q hi hj hpq => ?_, fun k q hk => ?_⟩
  · obtain ⟨a1, a2⟩ := key i p hi
    obtain ⟨b1, b2⟩ := key j q hj
    exact h.2.2.1 i j a1 b1 (by rw [← a2, ← b2]; exact hpq)
  · obtain ⟨a1, a2⟩ := key k q hk
    rw [a2]
    exact h.2.2.2.1 k a1
