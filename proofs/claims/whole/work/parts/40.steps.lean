/-! PURE ROWS 5: one step of insertion, one step of joining -/
/-- sums of bounds -/
def zsm (m : Nat → Nat) (s : Nat) : Nat → Nat
  | 0 => 0
  | n + 1 => zsm m s n + m (s + n)
theorem yz_comm (S : YS) {r q : Nat} (f g : Nat → Int64 × Int32) (h : r ≠ q) : yz (yz S r f) q g = yz (yz S q g) r f := by
  refine YS_ext (fun c => ?_) (fun c => ?_) (fun c k => rfl)
  · unfold yz
    simp only [gL_sI, gL_sL]
    by_cases h1 : c = 8 + q
    · rw [if_pos h1, if_neg (by omega), if_pos h1]
    · rw [if_neg h1]
      by_cases h2 : c = 8 + r
      · rw [if_pos h2, if_pos h2]
      · rw [if_neg h2, if_neg h2, if_neg h1]
  · unfold yz
    simp only [gI_sI, gI_sL]
    by_cases h1 : c = 14 + q
    · rw [if_pos h1, if_neg (by omega), if_pos h1]
    · rw [if_neg h1]
      by_cases h2 : c = 14 + r
      · rw [if_pos h2, if_pos h2]
      · rw [if_neg h2, if_neg h2, if_neg h1]
theorem zins_eq {α : Type} (f : Nat → α) {a p i : Nat} (hap : a ≤ p) (hpi : p ≤ i) : zs (va_up (va_cpy f f p (p + 1) (i - p)) p (f i)) a (i + 1 - a) = zs f a (p - a) ++ (f i :: zs f p (i - p)) := by
  rw [zs_split _ a (show p - a ≤ i + 1 - a by omega), show a + (p - a) = p by omega, show i + 1 - a - (p - a) = (i - p) + 1 by omega, zs_cons, va_up_self]
  congr 1
  · refine zs_congr (fun j hj => ?_)
    rw [va_up_ne _ _ (by omega), pk_cpy_out (Or.inl (by omega))]
  · congr 1
    refine zs_congr (fun j hj => ?_)
    rw [va_up_ne _ _ (by omega), pk_cpy_in (by omega) (by omega)]
    congr 1
    omega
theorem zins_out {α : Type} (f : Nat → α) {p i j : Nat} (hpi : p ≤ i) (h : j < p ∨ i + 1 ≤ j) : va_up (va_cpy f f p (p + 1) (i - p)) p (f i) j = f j := by
  rw [va_up_ne _ _ (by omega), pk_cpy_out (by omega)]
theorem zins {α : Type} {r : α → Int} {f1 f : Nat → α} {a p i : Nat} (hap : a ≤ p) (hpi : p ≤ i) (hi : f1 i = f i) (h1 : zo r (zs f1 a (i - a))) (h2 : ze r (zs f1 a (i - a)) (zs f a (i - a))) (hl : ∀ j, a ≤ j → j < p → r (f1 j) ≤ r (f1 i)) (hg : ∀ j, p ≤ j → j < i → r (f1 i) < r (f1 j)) :
    zo r (zs (va_up (va_cpy f1 f1 p (p + 1) (i - p)) p (f1 i)) a (i + 1 - a)) ∧ ze r (zs (va_up (va_cpy f1 f1 p (p + 1) (i - p)) p (f1 i)) a (i + 1 - a)) (zs f a (i + 1 - a)) := by
  have e1 : zs f1 a (i - a) = zs f1 a (p - a) ++ zs f1 p (i - p) := by
    rw [zs_split _ a (show p - a ≤ i - a by omega), show a + (p - a) = p by omega, show i - a - (p - a) = i - p by omega]
  have ha : ∀ y ∈ zs f1 a (p - a), r y ≤ r (f1 i) := by
    intro y hy
    obtain ⟨j, hj, rfl⟩ := zs_mem.mp hy
    exact hl _ (by omega) (by omega)
  have hb : ∀ y ∈ zs f1 p (i - p), r (f1 i) < r y := by
    intro y hy
    obtain ⟨j, hj, rfl⟩ := zs_mem.mp hy
    exact hg _ (by omega) (by omega)
  rw [zins_eq f1 hap hpi]
  rw [e1] at h1
  refine ⟨zo_mid h1 ha (fun y hy => by have := hb y hy; omega), ?_⟩
  refine (ze_mid hb).tr ?_
  rw [← e1, show i + 1 - a = (i - a) + 1 by omega, zs_succ, show a + (i - a) = i by omega, hi]
  exact h2.app (ze.rf _)
/-- joining: what has been put is in order and the same as what was taken; taken ones don't come behind those left -/
def zJ {α : Type} (r : α → Int) (f : Nat → α) (a m b lo hi : Nat) (M : List α) : Prop :=
  zo r M ∧ ze r M (zs f a (lo - a) ++ zs f m (hi - m)) ∧ (∀ j i, a ≤ j → j < lo → hi ≤ i → i < b → r (f j) ≤ r (f i)) ∧ (∀ i j, m ≤ i → i < hi → lo ≤ j → j < m → r (f i) < r (f j))
theorem zJ_mem {α : Type} {r : α → Int} {f : Nat → α} {a m b lo hi : Nat} {M : List α} (h : zJ r f a m b lo hi M) {y : α} (hy : y ∈ M) : (∃ j, a ≤ j ∧ j < lo ∧ f j = y) ∨ ∃ i, m ≤ i ∧ i < hi ∧ f i = y := by
  have h1 := h.2.1.mem hy
  rcases List.mem_append.mp h1 with q | q
  · obtain ⟨j, hj, e⟩ := zs_mem.mp q
    exact Or.inl ⟨a + j, by omega, by omega, e⟩
  · obtain ⟨j, hj, e⟩ := zs_mem.mp q
    exact Or.inr ⟨m + j, by omega, by omega, e⟩
theorem zJ_0 {α : Type} {r : α → Int} {f : Nat → α} {a m b : Nat} : zJ r f a m b a m [] := by
  refine ⟨by unfold zo; simp, ?_, fun j i _ _ _ _ => by omega, fun i j _ _ _ _ => by omega⟩
  rw [Nat.sub_self, Nat.sub_self, zs_zero, zs_zero]
  exact ze.rf _
theorem zJ_hi {α : Type} {r : α → Int} {f : Nat → α} {a m b lo hi : Nat} {M : List α} (h : zJ r f a m b lo hi M) (hmh : m ≤ hi) (hhb : hi < b) (h1 : ∀ i j, a ≤ i → i < j → j < m → r (f i) ≤ r (f j)) (h2 : ∀ i j, m ≤ i → i < j → j < b → r (f i) ≤ r (f j)) (halo : a ≤ lo) (hc : lo < m → r (f hi) < r (f lo)) : zJ r f a m b lo (hi + 1) (M ++ [f hi]) := by
  obtain ⟨g1, g2, g3, g4⟩ := id h
  refine ⟨zo_snoc g1 (fun y hy => ?_), ?_, fun j i q1 q2 q3 q4 => ?_, fun i j q1 q2 q3 q4 => ?_⟩
  · rcases zJ_mem h hy with ⟨j, e1, e2, rfl⟩ | ⟨i, e1, e2, rfl⟩
    · exact g3 j hi e1 e2 (Nat.le_refl _) hhb
    · exact h2 i hi e1 e2 hhb
  · rw [show hi + 1 - m = (hi - m) + 1 by omega, zs_succ, show m + (hi - m) = hi by omega, ← List.append_assoc]
    exact g2.app (ze.rf _)
  · exact g3 j i q1 q2 (by omega) q4
  · by_cases hi1 : i = hi
    · subst hi1
      have h3 := hc (by omega)
      by_cases hj : j = lo
      · rw [hj]; exact h3
      · have := h1 lo j halo (by omega) q4
        omega
    · exact g4 i j q1 (by omega) q3 q4
theorem zJ_lo {α : Type} {r : α → Int} {f : Nat → α} {a m b lo hi : Nat} {M : List α} (h : zJ r f a m b lo hi M) (hmh : m ≤ hi) (halo : a ≤ lo) (hlm : lo < m) (h1 : ∀ i j, a ≤ i → i < j → j < m → r (f i) ≤ r (f j)) (h2 : ∀ i j, m ≤ i → i < j → j < b → r (f i) ≤ r (f j)) (hc : hi < b → ¬ r (f hi) < r (f lo)) : zJ r f a m b (lo + 1) hi (M ++ [f lo]) := by
  obtain ⟨g1, g2, g3, g4⟩ := id h
  refine ⟨zo_snoc g1 (fun y hy => ?_), ?_, fun j i q1 q2 q3 q4 => ?_, fun i j q1 q2 q3 q4 => g4 i j q1 q2 (by omega) q4⟩
  · rcases zJ_mem h hy with ⟨j, e1, e2, rfl⟩ | ⟨i, e1, e2, rfl⟩
    · exact h1 j lo e1 e2 hlm
    · have := g4 i lo e1 e2 (Nat.le_refl _) hlm
      omega
  · rw [show lo + 1 - a = (lo - a) + 1 by omega, zs_succ, show a + (lo - a) = lo by omega, List.append_assoc]
    refine (g2.app (ze.rf [f lo])).tr ?_
    rw [List.append_assoc]
    refine (ze.rf _).app ?_
    exact ze.swap (fun y hy => by
      obtain ⟨j, hj, rfl⟩ := zs_mem.mp hy
      have := g4 (m + j) lo (by omega) (by omega) (Nat.le_refl _) hlm
      omega)
  · by_cases hj : j = lo
    · subst hj
      have h3 := hc (by omega)
      by_cases hi1 : i = hi
      · rw [hi1]; omega
      · have := h2 hi i hmh (by omega) q4
        omega
    · exact g3 j i q1 (by omega) q3 q4
/-- pairs across with one entry -/
theorem zc_none {α : Type} {r : α → Int} {A : List α} {h : α} (hA : ∀ y ∈ A, r y ≤ r h) : zc r A [h] = 0 := by
  induction A with
  | nil => rfl
  | cons x t ih =>
    rw [zc_cons, ih (fun y hy => hA y (List.mem_cons_of_mem _ hy))]
    have := hA x List.mem_cons_self
    unfold zk
    rw [List.filter_cons_of_neg (by rw [decide_eq_true_eq]; omega)]
    rfl
theorem zc_all {α : Type} {r : α → Int} {A : List α} {h : α} (hA : ∀ y ∈ A, r h < r y) : zc r A [h] = A.length := by
  induction A with
  | nil => rfl
  | cons x t ih =>
    rw [zc_cons, ih (fun y hy => hA y (List.mem_cons_of_mem _ hy))]
    have := hA x List.mem_cons_self
    unfold zk
    rw [List.filter_cons_of_pos (by rw [decide_eq_true_eq]; omega)]
    simp
    omega
theorem zJ_inv {α : Type} {r : α → Int} {f : Nat → α} {a m b lo hi : Nat} {M : List α} (h : zJ r f a m b lo hi M) (halo : a ≤ lo) (hlm : lo ≤ m) (hmh : m ≤ hi) (hhb : hi < b) (h1 : ∀ i j, a ≤ i → i < j → j < m → r (f i) ≤ r (f j)) (hc : lo < m → r (f hi) < r (f lo)) : zc r (zs f a (m - a)) (zs f m (hi + 1 - m)) = zc r (zs f a (m - a)) (zs f m (hi - m)) + (m - lo) := by
  rw [show hi + 1 - m = (hi - m) + 1 by omega, zs_succ, show m + (hi - m) = hi by omega, zc_appR]
  congr 1
  rw [zs_split f a (show lo - a ≤ m - a by omega), zc_app, show a + (lo - a) = lo by omega, show m - a - (lo - a) = m - lo by omega]
  rw [zc_none, zc_all, zs_len, Nat.zero_add]
  · intro y hy
    obtain ⟨j, hj, rfl⟩ := zs_mem.mp hy
    have h3 := hc (by omega)
    by_cases hj0 : j = 0
    · subst hj0; exact h3
    · have := h1 lo (lo + j) halo (by omega) (by omega)
      omega
  · intro y hy
    obtain ⟨j, hj, rfl⟩ := zs_mem.mp hy
    exact h.2.2.1 (a + j) hi (by omega) (by omega) (Nat.le_refl _) hhb
theorem zs_up_end {α : Type} (g : Nat → α) {a p : Nat} (x : α) (h : a ≤ p) : zs (va_up g p x) a (p + 1 - a) = zs g a (p - a) ++ [x] := by
  rw [show p + 1 - a = (p - a) + 1 by omega, zs_succ, show a + (p - a) = p by omega, va_up_self]
  congr 1
  refine zs_congr (fun j hj => ?_)
  rw [va_up_ne _ _ (by omega)]
