/-! PURE ROWS 1: pieces of a row as lists; sorted; same but for the order of unlike ones; insertion -/
/-- n entries from place a on -/
def zs {α : Type} (f : Nat → α) (a n : Nat) : List α := (List.range n).map (fun j => f (a + j))
theorem zs_len {α : Type} (f : Nat → α) (a n : Nat) : (zs f a n).length = n := by simp [zs]
theorem zs_zero {α : Type} (f : Nat → α) (a : Nat) : zs f a 0 = [] := by simp [zs]
theorem zs_get {α : Type} (f : Nat → α) (a : Nat) {n i : Nat} (h : i < n) : (zs f a n)[i]? = some (f (a + i)) := by simp [zs, h]
theorem zs_congr {α : Type} {f g : Nat → α} {a b n : Nat} (h : ∀ j, j < n → f (a + j) = g (b + j)) : zs f a n = zs g b n := by
  unfold zs
  apply List.map_congr_left
  intro j hj
  exact h j (List.mem_range.mp hj)
theorem zs_add {α : Type} (f : Nat → α) (a n m : Nat) : zs f a (n + m) = zs f a n ++ zs f (a + n) m := by
  unfold zs
  rw [List.range_add, List.map_append, List.map_map]
  congr 1
  apply List.map_congr_left
  intro j _
  simp [Nat.add_assoc]
theorem zs_one {α : Type} (f : Nat → α) (a : Nat) : zs f a 1 = [f a] := by simp [zs]
theorem zs_succ {α : Type} (f : Nat → α) (a n : Nat) : zs f a (n + 1) = zs f a n ++ [f (a + n)] := by rw [zs_add, zs_one]
theorem zs_cons {α : Type} (f : Nat → α) (a n : Nat) : zs f a (n + 1) = f a :: zs f (a + 1) n := by
  rw [Nat.add_comm n 1, zs_add, zs_one]; rfl
theorem zs_mem {α : Type} {f : Nat → α} {a n : Nat} {x : α} : x ∈ zs f a n ↔ ∃ j, j < n ∧ f (a + j) = x := by
  simp [zs, List.mem_map, List.mem_range]
/-- in order by a rank -/
def zo {α : Type} (r : α → Int) (l : List α) : Prop := l.Pairwise (fun x y => r x ≤ r y)
theorem zo_zs {α : Type} {r : α → Int} {f : Nat → α} {a n : Nat} : zo r (zs f a n) ↔ ∀ i j, i < j → j < n → r (f (a + i)) ≤ r (f (a + j)) := by
  unfold zo
  rw [List.pairwise_iff_getElem]
  constructor
  · intro h i j hij hj
    have h1 := h i j (by rw [zs_len]; omega) (by rw [zs_len]; omega) hij
    simpa [zs] using h1
  · intro h i j hi hj hij
    rw [zs_len] at hi hj
    have h1 := h i j hij hj
    simpa [zs] using h1
/-- the same entries, those alike in the same order -/
def ze {α : Type} (r : α → Int) (l m : List α) : Prop := ∀ v : Int, l.filter (fun x => decide (r x = v)) = m.filter (fun x => decide (r x = v))
theorem ze.rf {α : Type} {r : α → Int} (l : List α) : ze r l l := fun _ => rfl
theorem ze.sy {α : Type} {r : α → Int} {l m : List α} (h : ze r l m) : ze r m l := fun v => (h v).symm
theorem ze.tr {α : Type} {r : α → Int} {l m n : List α} (h : ze r l m) (k : ze r m n) : ze r l n := fun v => (h v).trans (k v)
theorem ze.app {α : Type} {r : α → Int} {l m l' m' : List α} (h : ze r l m) (k : ze r l' m') : ze r (l ++ l') (m ++ m') := fun v => by
  rw [List.filter_append, List.filter_append, h v, k v]
theorem ze.cons {α : Type} {r : α → Int} {l m : List α} (x : α) (h : ze r l m) : ze r (x :: l) (x :: m) := ze.app (ze.rf [x]) h
theorem ze.mem {α : Type} {r : α → Int} {l m : List α} (h : ze r l m) {x : α} (hx : x ∈ l) : x ∈ m := by
  have h1 : x ∈ l.filter (fun y => decide (r y = r x)) := List.mem_filter.mpr ⟨hx, by simp⟩
  rw [h (r x)] at h1
  exact (List.mem_filter.mp h1).1
theorem ze.nil {α : Type} {r : α → Int} {m : List α} (h : ze r [] m) : m = [] := by
  cases m with
  | nil => rfl
  | cons x t => exact absurd (h.sy.mem List.mem_cons_self) List.not_mem_nil
/-- in order and the same: the same list -/
theorem zo_uniq {α : Type} {r : α → Int} : ∀ {l m : List α}, zo r l → zo r m → ze r l m → l = m := by
  intro l
  induction l with
  | nil => intro m _ _ h; exact h.nil.symm
  | cons x t ih =>
    intro m hl hm h
    cases m with
    | nil => exact h.sy.nil
    | cons y u =>
      unfold zo at hl hm
      rw [List.pairwise_cons] at hl hm
      have hx : x ∈ y :: u := h.mem List.mem_cons_self
      have hy : y ∈ x :: t := h.sy.mem List.mem_cons_self
      have h1 : r y ≤ r x := by
        rcases List.mem_cons.mp hx with e | e
        · rw [e]; exact Int.le_refl _
        · exact hm.1 x e
      have h2 : r x ≤ r y := by
        rcases List.mem_cons.mp hy with e | e
        · rw [e]; exact Int.le_refl _
        · exact hl.1 y e
      have hr : r x = r y := by omega
      have h3 := h (r x)
      rw [List.filter_cons_of_pos (by simp), List.filter_cons_of_pos (by simp [hr])] at h3
      have hxy : x = y := (List.cons.inj h3).1
      subst hxy
      have h4 : ze r t u := by
        intro v
        by_cases hv : r x = v
        · subst hv
          exact (List.cons.inj h3).2
        · have h5 := h v
          rw [List.filter_cons_of_neg (by simp [hv]), List.filter_cons_of_neg (by simp [hv])] at h5
          exact h5
      rw [ih hl.2 hm.2 h4]
/-- where no two unlike entries have one rank, a permutation is the same -/
theorem ze.perm {α : Type} {r : α → Int} {l m : List α} (h : l.Perm m) (hr : ∀ x ∈ l, ∀ y ∈ l, r x = r y → x = y) : ze r l m := by
  intro v
  have hp : (l.filter (fun x => decide (r x = v))).Perm (m.filter (fun x => decide (r x = v))) := h.filter _
  generalize hA : l.filter (fun x => decide (r x = v)) = A at hp
  generalize hB : m.filter (fun x => decide (r x = v)) = B at hp
  have ha : ∀ x ∈ A, ∀ y ∈ A, x = y := by
    intro x hx y hy
    rw [← hA, List.mem_filter] at hx hy
    have h1 := of_decide_eq_true hx.2
    have h2 := of_decide_eq_true hy.2
    exact hr x hx.1 y hy.1 (by rw [h1, h2])
  cases hA2 : A with
  | nil =>
    rw [hA2] at hp
    exact (List.nil_perm.mp hp).symm
  | cons x t =>
    have h1 : ∀ y ∈ A, y = x := fun y hy => ha y hy x (by rw [hA2]; exact List.mem_cons_self)
    have h2 : ∀ y ∈ B, y = x := fun y hy => h1 y (hp.mem_iff.mpr hy)
    rw [← hA2, List.eq_replicate_of_mem h1, List.eq_replicate_of_mem h2, hp.length_eq]
/-- an entry put behind all that don't come behind it -/
def zi {α : Type} (r : α → Int) (x : α) : List α → List α
  | [] => [x]
  | y :: t => if r x < r y then x :: y :: t else y :: zi r x t
theorem zi_mem {α : Type} {r : α → Int} {x y : α} : ∀ {l : List α}, y ∈ zi r x l ↔ y = x ∨ y ∈ l := by
  intro l
  induction l with
  | nil => simp [zi]
  | cons z t ih =>
    unfold zi
    split
    · simp
    · simp only [List.mem_cons, ih]
      constructor
      · rintro (h | h | h)
        · exact Or.inr (Or.inl h)
        · exact Or.inl h
        · exact Or.inr (Or.inr h)
      · rintro (h | h | h)
        · exact Or.inr (Or.inl h)
        · exact Or.inl h
        · exact Or.inr (Or.inr h)
theorem zi_o {α : Type} {r : α → Int} {x : α} : ∀ {l : List α}, zo r l → zo r (zi r x l) := by
  intro l
  induction l with
  | nil => intro _; unfold zi zo; simp
  | cons z t ih =>
    intro h
    have h0 := h
    unfold zo at h
    rw [List.pairwise_cons] at h
    unfold zi
    split
    · rename_i hlt
      unfold zo
      rw [List.pairwise_cons]
      refine ⟨fun y hy => ?_, h0⟩
      rcases List.mem_cons.mp hy with e | e
      · rw [e]; omega
      · have := h.1 y e; omega
    · rename_i hge
      unfold zo
      rw [List.pairwise_cons]
      refine ⟨fun y hy => ?_, ih h.2⟩
      rcases zi_mem.mp hy with e | e
      · rw [e]; omega
      · exact h.1 y e
theorem zi_e {α : Type} {r : α → Int} {x : α} : ∀ {l : List α}, zo r l → ze r (zi r x l) (l ++ [x]) := by
  intro l
  induction l with
  | nil => intro _; exact ze.rf _
  | cons z t ih =>
    intro h
    unfold zo at h
    rw [List.pairwise_cons] at h
    unfold zi
    split
    · rename_i hlt
      intro v
      by_cases hv : r x = v
      · have hn : ∀ y ∈ z :: t, ¬ decide (r y = v) = true := by
          intro y hy
          rw [decide_eq_true_eq]
          rcases List.mem_cons.mp hy with e | e
          · rw [e]; omega
          · have := h.1 y e; omega
        have h1 : (z :: t).filter (fun y => decide (r y = v)) = [] := List.filter_eq_nil_iff.mpr hn
        rw [List.filter_append, h1, List.filter_cons_of_pos (by simp [hv]), h1]
        simp [hv]
      · rw [List.filter_append, List.filter_cons_of_neg (by simp [hv])]
        simp [hv]
    · exact ze.cons z (ih h.2)
/-- the steady sort: one by one -/
def zt {α : Type} (r : α → Int) (l : List α) : List α := l.foldl (fun acc x => zi r x acc) []
theorem zt_fold {α : Type} {r : α → Int} : ∀ {l acc : List α}, zo r acc → zo r (l.foldl (fun acc x => zi r x acc) acc) ∧ ze r (l.foldl (fun acc x => zi r x acc) acc) (acc ++ l) := by
  intro l
  induction l with
  | nil => intro acc h; exact ⟨h, by rw [List.append_nil]; exact ze.rf _⟩
  | cons x t ih =>
    intro acc h
    obtain ⟨h1, h2⟩ := ih (acc := zi r x acc) (zi_o h)
    refine ⟨h1, h2.tr ?_⟩
    have h3 : ze r (zi r x acc ++ t) ((acc ++ [x]) ++ t) := (zi_e h).app (ze.rf t)
    rw [List.append_assoc] at h3
    exact h3
theorem zt_o {α : Type} (r : α → Int) (l : List α) : zo r (zt r l) := (zt_fold (acc := []) (by unfold zo; simp)).1
theorem zt_e {α : Type} (r : α → Int) (l : List α) : ze r (zt r l) l := (zt_fold (acc := []) (by unfold zo; simp)).2
/-- what is in order and the same is the steady sort -/
theorem zt_of {α : Type} {r : α → Int} {l m : List α} (h : zo r m) (k : ze r m l) : m = zt r l := zo_uniq h (zt_o r l) (k.tr (zt_e r l).sy)
theorem ze.len {α : Type} {r : α → Int} {l m : List α} (h : ze r l m) : l.length = m.length := by
  have h1 : zt r l = zt r m := zt_of (zt_o r l) ((zt_e r l).tr h)
  have key : ∀ (k acc : List α), (k.foldl (fun acc x => zi r x acc) acc).length = acc.length + k.length := by
    intro k
    induction k with
    | nil => intro acc; simp
    | cons x t ih =>
      intro acc
      have hz : ∀ a : List α, (zi r x a).length = a.length + 1 := by
        intro a
        induction a with
        | nil => simp [zi]
        | cons z u ih2 =>
          unfold zi
          split
          · simp
          · simp [ih2]
      simp only [List.foldl_cons]
      rw [ih, hz]
      simp
      omega
  have h2 := key l []
  have h3 := key m []
  unfold zt at h1
  rw [h1, h3] at h2
  simpa using h2.symm
