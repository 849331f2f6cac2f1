/-! PURE ROWS 3: what the ways of sorting rest on -/
theorem ze.swap {α : Type} {r : α → Int} {x : α} {B : List α} (h : ∀ y ∈ B, r y ≠ r x) : ze r (B ++ [x]) (x :: B) := by
  intro v
  rw [List.filter_append]
  by_cases hv : r x = v
  · have hn : ∀ y ∈ B, ¬ decide (r y = v) = true := by
      intro y hy
      rw [decide_eq_true_eq, ← hv]
      exact h y hy
    have h1 : B.filter (fun y => decide (r y = v)) = [] := List.filter_eq_nil_iff.mpr hn
    rw [h1, List.filter_cons_of_pos (by simp [hv]), List.filter_cons_of_pos (by simp [hv]), h1]
    rfl
  · rw [List.filter_cons_of_neg (by simp [hv]), List.filter_cons_of_neg (by simp [hv])]
    simp
/-- an entry goes in between -/
theorem zo_mid {α : Type} {r : α → Int} {x : α} {A B : List α} (h : zo r (A ++ B)) (ha : ∀ y ∈ A, r y ≤ r x) (hb : ∀ y ∈ B, r x ≤ r y) : zo r (A ++ x :: B) := by
  unfold zo at h ⊢
  rw [List.pairwise_append] at h ⊢
  refine ⟨h.1, List.pairwise_cons.mpr ⟨hb, h.2.1⟩, fun a ha1 b hb1 => ?_⟩
  rcases List.mem_cons.mp hb1 with e | e
  · rw [e]; exact ha a ha1
  · exact h.2.2 a ha1 b e
theorem ze_mid {α : Type} {r : α → Int} {x : α} {A B : List α} (hb : ∀ y ∈ B, r x < r y) : ze r (A ++ x :: B) ((A ++ B) ++ [x]) := by
  rw [List.append_assoc]
  exact (ze.rf A).app (ze.swap (fun y hy => by have := hb y hy; omega)).sy
/-- an entry is put at the end -/
theorem zo_snoc {α : Type} {r : α → Int} {x : α} {A : List α} (h : zo r A) (ha : ∀ y ∈ A, r y ≤ r x) : zo r (A ++ [x]) := by
  have h1 : zo r (A ++ []) := by rw [List.append_nil]; exact h
  exact zo_mid h1 ha (fun y hy => absurd hy List.not_mem_nil)
/-- the entries of a row -/
theorem zs_split {α : Type} (f : Nat → α) (a : Nat) {p n : Nat} (h : p ≤ n) : zs f a n = zs f a p ++ zs f (a + p) (n - p) := by
  have := zs_add f a p (n - p)
  rw [show p + (n - p) = n by omega] at this
  exact this
theorem zo_app {α : Type} {r : α → Int} {A B : List α} : zo r (A ++ B) ↔ zo r A ∧ zo r B ∧ ∀ a ∈ A, ∀ b ∈ B, r a ≤ r b := by
  unfold zo
  exact List.pairwise_append
theorem ze.of_eq {α : Type} {r : α → Int} {l m : List α} (h : l = m) : ze r l m := h ▸ ze.rf l
/-- the same entries: as many of each -/
theorem ze.to_perm {α : Type} {r : α → Int} {l m : List α} (h : ze r l m) : l.Perm m := by
  have key : ∀ l : List α, (zt r l).Perm l := by
    have hi : ∀ (x : α) (a : List α), (zi r x a).Perm (x :: a) := by
      intro x a
      induction a with
      | nil => exact List.Perm.refl _
      | cons z u ih =>
        unfold zi
        split
        · exact List.Perm.refl _
        · exact (List.Perm.cons z ih).trans (List.Perm.swap x z u)
    have hf : ∀ (k acc : List α), (k.foldl (fun acc x => zi r x acc) acc).Perm (acc ++ k) := by
      intro k
      induction k with
      | nil => intro acc; simp
      | cons x t ih =>
        intro acc
        simp only [List.foldl_cons]
        refine (ih _).trans ?_
        refine ((hi x acc).append_right t).trans ?_
        exact (List.perm_middle).symm
    intro l
    exact hf l []
  have h1 : zt r l = zt r m := zt_of (zt_o r l) ((zt_e r l).tr h)
  exact (key l).symm.trans (h1 ▸ key m)
