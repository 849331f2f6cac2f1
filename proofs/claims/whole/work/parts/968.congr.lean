/-! What depends on a row's entries alone -/
theorem zmk_congr {f g : Nat → Int64 × Int32} : ∀ n, (∀ j, j < n → f j = g j) → zmk f n = zmk g n := by
  intro n
  induction n with
  | zero => intro _; rfl
  | succ n ih =>
    intro h
    show 31 * zmk f n + (f n).1 + 17 * Int32.toInt64 (f n).2 = 31 * zmk g n + (g n).1 + 17 * Int32.toInt64 (g n).2
    rw [ih (fun j hj => h j (by omega)), h n (by omega)]
theorem zsl_congr {α : Type} {r : α → Int} {f g : Nat → α} : ∀ n, (∀ j, j < n → f j = g j) → zsl r f n = zsl r g n := by
  intro n
  induction n with
  | zero => intro _; rfl
  | succ n ih =>
    intro h
    show (match (zsl r f n).getLast? with | none => [f n] | some y => if r y < r (f n) then zsl r f n ++ [f n] else zsl r f n) = (match (zsl r g n).getLast? with | none => [g n] | some y => if r y < r (g n) then zsl r g n ++ [g n] else zsl r g n)
    rw [ih (fun j hj => h j (by omega)), h n (by omega)]
theorem zmx_congr3 {α : Type} {r : α → Int} {f f' : Nat → α} {g g' : Nat → Nat} {i : Nat} (h1 : ∀ j, j ≤ i → f j = f' j) (h2 : ∀ j, j < i → g j = g' j) : ∀ t, t ≤ i → zmx r f g i t = zmx r f' g' i t := by
  intro t
  induction t with
  | zero => intro _; rfl
  | succ t ih =>
    intro ht
    show (if r (f t) < r (f i) then max (zmx r f g i t) (g t) else zmx r f g i t) = (if r (f' t) < r (f' i) then max (zmx r f' g' i t) (g' t) else zmx r f' g' i t)
    rw [ih (by omega), h1 t (by omega), h1 i (by omega), h2 t (by omega)]
theorem zlg_congr {α : Type} {r : α → Int} {f g : Nat → α} {n : Nat} (h : ∀ j, j < n → f j = g j) : ∀ j, j < n → zlg r f j = zlg r g j := by
  intro j
  induction j using Nat.strongRecOn with
  | ind j ih =>
    intro hj
    rw [zlg_eq, zlg_eq, zmx_congr3 (fun t ht => h t (by omega)) (fun t ht => ih t ht (by omega)) j (Nat.le_refl _)]
theorem zmost_congr {g h : Nat → Nat} : ∀ n, (∀ j, j < n → g j = h j) → zmost g n = zmost h n := by
  intro n
  induction n with
  | zero => intro _; rfl
  | succ n ih =>
    intro q
    show max (zmost g n) (g n) = max (zmost h n) (h n)
    rw [ih (fun j hj => q j (by omega)), q n (by omega)]
theorem zre_congr {b b' : Nat → Bool} {n : Nat} {fl : Bool} (h : ∀ j, j < n → b j = b' j) : ∀ d j, zre b n fl d j = zre b' n fl d j := by
  intro d
  induction d with
  | zero => intro j; rfl
  | succ d ih =>
    intro j
    show (if j < n ∧ b j = fl then zre b n fl d (j + 1) else j) = (if j < n ∧ b' j = fl then zre b' n fl d (j + 1) else j)
    by_cases e : j < n
    · rw [h j e, ih]
    · rw [if_neg (fun z => e z.1), if_neg (fun z => e z.1)]
theorem zrn_congr {b b' : Nat → Bool} {n : Nat} (h : ∀ j, j < n → b j = b' j) : ∀ d i, zrn b n d i = zrn b' n d i := by
  intro d
  induction d with
  | zero => intro i; rfl
  | succ d ih =>
    intro i
    show (if i < n then zrn b n d (zre b n (decide (i + 1 < n) && b (i + 1)) n (i + 1)) + 1 else 0) = (if i < n then zrn b' n d (zre b' n (decide (i + 1 < n) && b' (i + 1)) n (i + 1)) + 1 else 0)
    have e : (decide (i + 1 < n) && b (i + 1)) = (decide (i + 1 < n) && b' (i + 1)) := by
      by_cases e : i + 1 < n
      · rw [h _ e]
      · rw [decide_eq_false e]; rfl
    rw [e, zre_congr h, ih]
theorem zt_congr {α : Type} {r r' : α → Int} {l : List α} (h : ∀ x ∈ l, r x = r' x) : zt r l = zt r' l := by
  have hm : ∀ x ∈ zt r l, x ∈ l := fun x hx => (zt_e r l).mem hx
  refine zt_of ?_ ?_
  · exact List.Pairwise.imp_of_mem (fun {a b} ha hb q => by rw [← h a (hm a ha), ← h b (hm b hb)]; exact q) (zt_o r l)
  · intro v
    have e1 : ∀ m : List α, (∀ x ∈ m, x ∈ l) → m.filter (fun x => decide (r' x = v)) = m.filter (fun x => decide (r x = v)) := fun m hh => List.filter_congr (fun x hx => by rw [h x (hh x hx)])
    rw [e1 _ hm, e1 l (fun x hx => hx)]
    exact zt_e r l v
theorem zix_congr {od n : Nat} {F G : Nat → Int64 × Int32} (h : ∀ j, j < n → F j = G j) : zix od F n = zix od G n := by
  funext i
  unfold zix
  rw [zt_congr (fun x hx => by rw [h x (List.mem_range.mp hx)])]
theorem zs_pt {α : Type} {f g : Nat → α} {n : Nat} (h : zs f 0 n = zs g 0 n) {j : Nat} (hj : j < n) : f j = g j := by
  have h1 := zs_get f 0 hj
  rw [h, zs_get g 0 hj, Nat.zero_add] at h1
  exact (Option.some.inj h1).symm
theorem zs_eq {α : Type} {f g : Nat → α} {n : Nat} (h : ∀ j, j < n → f j = g j) : zs f 0 n = zs g 0 n := zs_congr (fun j hj => by rw [Nat.zero_add]; exact h j hj)
theorem zuf_mem {I : Nat → Nat} {m n x : Nat} (h : x ∈ zuf I m n) : x < n := by
  unfold zuf at h
  exact List.mem_range.mp (List.mem_filter.mp h).1
theorem zgr_nI {a : Int32} (h : zgr a) : ∃ k, k < 4 ∧ a = nI k := by
  obtain ⟨k, h1, h2⟩ := zg_nI (b := 3) (by decide) h.1 h.2
  exact ⟨k, by omega, h2⟩
theorem zgo_nI {a : Int32} (h : zgo a) : ∃ k, k < 8 ∧ a = nI k := by
  obtain ⟨k, h1, h2⟩ := zg_nI (b := 7) (by decide) h.1 h.2
  exact ⟨k, by omega, h2⟩
