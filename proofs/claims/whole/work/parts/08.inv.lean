/-! PURE ROWS 4: pairs that stand the other way round -/
/-- how many of l come before x -/
def zk {α : Type} (r : α → Int) (x : α) (l : List α) : Nat := (l.filter (fun y => decide (r y < r x))).length
def zj {α : Type} (r : α → Int) : List α → Nat
  | [] => 0
  | x :: t => zk r x t + zj r t
theorem zj_cons {α : Type} (r : α → Int) (x : α) (t : List α) : zj r (x :: t) = zk r x t + zj r t := rfl
/-- pairs across -/
def zc {α : Type} (r : α → Int) (A B : List α) : Nat := (A.map (fun x => zk r x B)).sum
theorem zk_app {α : Type} (r : α → Int) (x : α) (A B : List α) : zk r x (A ++ B) = zk r x A + zk r x B := by
  unfold zk
  rw [List.filter_append, List.length_append]
theorem zc_nil {α : Type} (r : α → Int) (B : List α) : zc r [] B = 0 := rfl
theorem zc_cons {α : Type} (r : α → Int) (x : α) (A B : List α) : zc r (x :: A) B = zk r x B + zc r A B := by
  unfold zc
  rw [List.map_cons, List.sum_cons]
theorem zc_app {α : Type} (r : α → Int) (A A' B : List α) : zc r (A ++ A') B = zc r A B + zc r A' B := by
  unfold zc
  rw [List.map_append, List.sum_append]
theorem zc_appR {α : Type} (r : α → Int) (A B B' : List α) : zc r A (B ++ B') = zc r A B + zc r A B' := by
  induction A with
  | nil => rfl
  | cons x t ih =>
    rw [zc_cons, zc_cons, zc_cons, zk_app, ih]
    omega
theorem zj_app {α : Type} (r : α → Int) (A B : List α) : zj r (A ++ B) = zj r A + zj r B + zc r A B := by
  induction A with
  | nil => simp [zj, zc_nil]
  | cons x t ih =>
    rw [List.cons_append, zj_cons, zj_cons, zk_app, ih, zc_cons]
    omega
theorem zk_perm {α : Type} {r : α → Int} {x : α} {A B : List α} (h : A.Perm B) : zk r x A = zk r x B := by
  unfold zk
  exact (h.filter _).length_eq
theorem zc_permR {α : Type} {r : α → Int} {A B B' : List α} (h : B.Perm B') : zc r A B = zc r A B' := by
  induction A with
  | nil => rfl
  | cons x t ih => rw [zc_cons, zc_cons, ih, zk_perm h]
theorem zc_permL {α : Type} {r : α → Int} {A A' B : List α} (h : A.Perm A') : zc r A B = zc r A' B := by
  induction h with
  | nil => rfl
  | cons x _ ih => rw [zc_cons, zc_cons, ih]
  | swap x y l =>
    rw [zc_cons, zc_cons, zc_cons, zc_cons]
    omega
  | trans _ _ ih1 ih2 => rw [ih1, ih2]
/-- in order: no pair -/
theorem zj_o {α : Type} {r : α → Int} : ∀ {l : List α}, zo r l → zj r l = 0 := by
  intro l
  induction l with
  | nil => intro _; rfl
  | cons x t ih =>
    intro h
    unfold zo at h
    rw [List.pairwise_cons] at h
    unfold zj
    have h1 : zk r x t = 0 := by
      unfold zk
      rw [List.filter_eq_nil_iff.mpr (fun y hy => by
        have := h.1 y hy
        rw [decide_eq_true_eq]
        omega)]
      rfl
    rw [h1, ih h.2]
/-- two parts in order are joined: the pairs across are gone, no other pair changes -/
theorem zj_join {α : Type} {r : α → Int} {A L R M B : List α} (hL : zo r L) (hR : zo r R) (hM : zo r M) (hp : M.Perm (L ++ R)) : zj r (A ++ (L ++ R) ++ B) = zj r (A ++ M ++ B) + zc r L R := by
  rw [zj_app r (A ++ (L ++ R)) B, zj_app r A (L ++ R), zj_app r L R, zj_app r (A ++ M) B, zj_app r A M, zj_o hL, zj_o hR, zj_o hM, zc_permR (A := A) hp, zc_app r A (L ++ R) B, zc_app r A M B, zc_permL (B := B) hp]
  omega
