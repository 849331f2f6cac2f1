/-! COUNTING: buckets, byte by byte -/
/-- the entries by a small number each, bucket after bucket -/
def zbk {α : Type} (b : α → Nat) (l : List α) : Nat → List α
  | 0 => []
  | v + 1 => zbk b l v ++ l.filter (fun x => decide (b x = v))
theorem zbk_lt {α : Type} {b : α → Nat} {l : List α} : ∀ {v : Nat} {x : α}, x ∈ zbk b l v → b x < v := by
  intro v
  induction v with
  | zero => intro x h; exact absurd h List.not_mem_nil
  | succ v ih =>
    intro x h
    rcases List.mem_append.mp h with h | h
    · have := ih h; omega
    · have := of_decide_eq_true (List.mem_filter.mp h).2; omega
theorem zbk_o {α : Type} (b : α → Nat) (l : List α) : ∀ v, zo (fun x => (b x : Int)) (zbk b l v) := by
  intro v
  induction v with
  | zero => exact List.Pairwise.nil
  | succ v ih =>
    refine zo_app.mpr ⟨ih, List.pairwise_of_forall_mem_list (fun x hx y hy => ?_), fun x hx y hy => ?_⟩
    · have h1 := of_decide_eq_true (List.mem_filter.mp hx).2
      have h2 := of_decide_eq_true (List.mem_filter.mp hy).2
      show (b x : Int) ≤ (b y : Int)
      omega
    · have h1 := zbk_lt hx
      have h2 := of_decide_eq_true (List.mem_filter.mp hy).2
      show (b x : Int) ≤ (b y : Int)
      omega
theorem zbk_f {α : Type} (b : α → Nat) (l : List α) (u : Nat) : ∀ v, (zbk b l v).filter (fun x => decide (b x = u)) = if u < v then l.filter (fun x => decide (b x = u)) else [] := by
  intro v
  induction v with
  | zero => rfl
  | succ v ih =>
    show (zbk b l v ++ l.filter (fun x => decide (b x = v))).filter (fun x => decide (b x = u)) = _
    rw [List.filter_append, ih, List.filter_filter]
    by_cases h : u = v
    · subst h
      rw [if_neg (by omega), if_pos (by omega), List.nil_append]
      congr 1
      funext x
      rw [Bool.and_self]
    · have e : l.filter (fun a => decide (b a = u) && decide (b a = v)) = [] := List.filter_eq_nil_iff.mpr (fun x _ => by
        simp only [Bool.and_eq_true, decide_eq_true_eq]
        omega)
      rw [e, List.append_nil]
      by_cases h2 : u < v
      · rw [if_pos h2, if_pos (by omega)]
      · rw [if_neg h2, if_neg (by omega)]
theorem ze_nat {α : Type} {r : α → Nat} {l m : List α} : ze (fun x => (r x : Int)) l m ↔ ∀ w : Nat, l.filter (fun x => decide (r x = w)) = m.filter (fun x => decide (r x = w)) := by
  have e : ∀ (w : Nat) (l : List α), l.filter (fun x => decide ((r x : Int) = (w : Int))) = l.filter (fun x => decide (r x = w)) := fun w l => by
    congr 1
    funext x
    exact decide_eq_decide.mpr Int.ofNat_inj
  constructor
  · intro h w
    have := h (w : Int)
    rwa [e, e] at this
  · intro h v
    by_cases hv : 0 ≤ v
    · obtain ⟨w, rfl⟩ := Int.eq_ofNat_of_zero_le hv
      show l.filter (fun x => decide ((r x : Int) = (w : Int))) = m.filter (fun x => decide ((r x : Int) = (w : Int)))
      rw [e, e]; exact h w
    · have n : ∀ l : List α, l.filter (fun x => decide ((r x : Int) = v)) = [] := fun l => List.filter_eq_nil_iff.mpr (fun x _ => by
        rw [decide_eq_true_eq]; omega)
      show l.filter (fun x => decide ((r x : Int) = v)) = m.filter (fun x => decide ((r x : Int) = v))
      rw [n, n]
theorem zbk_e {α : Type} {b : α → Nat} {l : List α} {V : Nat} (h : ∀ x ∈ l, b x < V) : ze (fun x => (b x : Int)) (zbk b l V) l := by
  rw [ze_nat]
  intro w
  rw [zbk_f]
  split
  · rfl
  · exact (List.filter_eq_nil_iff.mpr (fun x hx => by have := h x hx; rw [decide_eq_true_eq]; omega)).symm
theorem zpw_f {α : Type} {b : α → Nat} {R : α → α → Prop} : ∀ {l : List α}, (∀ v, (l.filter (fun x => decide (b x = v))).Pairwise R) → l.Pairwise (fun x y => b x = b y → R x y) := by
  intro l
  induction l with
  | nil => intro _; exact List.Pairwise.nil
  | cons x t ih =>
    intro h
    refine List.pairwise_cons.mpr ⟨fun y hy e => ?_, ih (fun v => ?_)⟩
    · have h1 := h (b x)
      rw [List.filter_cons_of_pos (by simp), List.pairwise_cons] at h1
      exact h1.1 y (List.mem_filter.mpr ⟨hy, by simp [e]⟩)
    · have h1 := h v
      by_cases hv : b x = v
      · rw [List.filter_cons_of_pos (by simp [hv]), List.pairwise_cons] at h1
        exact h1.2
      · rwa [List.filter_cons_of_neg (by simp [hv])] at h1
/-- by the lower part first, then steadily by the higher one -/
theorem zlsd {α : Type} {rl b : α → Nat} {M : Nat} {l0 l1 l2 : List α} (hM : ∀ x, rl x < M) (o1 : zo (fun x => (rl x : Int)) l1) (e1 : ze (fun x => (rl x : Int)) l1 l0) (o2 : zo (fun x => (b x : Int)) l2) (e2 : ze (fun x => (b x : Int)) l2 l1) :
    zo (fun x => ((rl x + M * b x : Nat) : Int)) l2 ∧ ze (fun x => ((rl x + M * b x : Nat) : Int)) l2 l0 := by
  rw [ze_nat] at e1 e2
  constructor
  · have p : l2.Pairwise (fun x y => b x = b y → (rl x : Int) ≤ (rl y : Int)) := zpw_f (fun v => by
      rw [e2 v]
      exact List.Pairwise.sublist List.filter_sublist o1)
    refine (List.Pairwise.and o2 p).imp ?_
    intro x y h
    obtain ⟨h1, h2⟩ := h
    have h3 : b x ≤ b y := Int.ofNat_le.mp h1
    refine Int.ofNat_le.mpr ?_
    rcases Nat.lt_or_ge (b x) (b y) with hl | hl
    · have h4 : M * b x + M ≤ M * b y := by rw [← Nat.mul_succ]; exact Nat.mul_le_mul_left M hl
      have := hM x
      omega
    · have h4 : b x = b y := by omega
      have := Int.ofNat_le.mp (h2 h4)
      rw [h4]
      omega
  · rw [ze_nat]
    intro w
    have e : ∀ l : List α, l.filter (fun x => decide (rl x + M * b x = w)) = (l.filter (fun x => decide (b x = w / M))).filter (fun x => decide (rl x = w % M)) := fun l => by
      rw [List.filter_filter]
      congr 1
      funext x
      rw [← Bool.decide_and]
      refine decide_eq_decide.mpr ?_
      have hx := hM x
      constructor
      · rintro rfl
        rw [Nat.add_mul_mod_self_left, Nat.mod_eq_of_lt hx, Nat.add_mul_div_left _ _ (by omega), Nat.div_eq_of_lt hx]
        exact ⟨rfl, by omega⟩
      · rintro ⟨h1, h2⟩
        rw [h1, h2]
        exact Nat.mod_add_div w M
    have c : ∀ (l : List α) (p q : α → Bool), (l.filter p).filter q = (l.filter q).filter p := fun l p q => by
      rw [List.filter_filter, List.filter_filter]
      congr 1
      funext x
      exact Bool.and_comm _ _
    rw [e, e, e2, c, e1, c]
theorem zo_shift {α : Type} {r r' : α → Int} {C : Int} {l : List α} (h : ∀ x, r' x = r x + C) (ho : zo r l) : zo r' l := ho.imp (fun {x y} q => by rw [h x, h y]; omega)
theorem ze_shift {α : Type} {r r' : α → Int} {C : Int} {l m : List α} (h : ∀ x, r' x = r x + C) (he : ze r l m) : ze r' l m := by
  intro v
  have e : ∀ l : List α, l.filter (fun x => decide (r' x = v)) = l.filter (fun x => decide (r x = v - C)) := fun l => by
    congr 1
    funext x
    refine decide_eq_decide.mpr ?_
    rw [h x]
    omega
  rw [e, e]; exact he _
/-- how many of the first i have v; where v's bucket begins -/
def zct {α : Type} (b : α → Nat) (f : Nat → α) (i v : Nat) : Nat := ((zs f 0 i).filter (fun x => decide (b x = v))).length
def zbs {α : Type} (b : α → Nat) (f : Nat → α) (n v : Nat) : Nat := (zbk b (zs f 0 n) v).length
theorem zct_f {α : Type} (b : α → Nat) (f : Nat → α) (i v : Nat) : (zs f 0 (i + 1)).filter (fun x => decide (b x = v)) = (zs f 0 i).filter (fun x => decide (b x = v)) ++ (if b (f i) = v then [f i] else []) := by
  rw [zs_succ, List.filter_append, Nat.zero_add]
  congr 1
  by_cases h : b (f i) = v
  · rw [if_pos h, List.filter_cons_of_pos (by simp [h])]; rfl
  · rw [if_neg h, List.filter_cons_of_neg (by simp [h])]; rfl
theorem zct_s {α : Type} (b : α → Nat) (f : Nat → α) (i v : Nat) : zct b f (i + 1) v = zct b f i v + (if b (f i) = v then 1 else 0) := by
  unfold zct
  rw [zct_f, List.length_append]
  split <;> rfl
theorem zct_le {α : Type} (b : α → Nat) (f : Nat → α) (v : Nat) {i n : Nat} (h : i ≤ n) : zct b f i v ≤ zct b f n v := by
  induction n with
  | zero => rw [show i = 0 by omega]; exact Nat.le_refl _
  | succ n ih =>
    by_cases hi : i = n + 1
    · subst hi; exact Nat.le_refl _
    · exact Nat.le_trans (ih (by omega)) (by rw [zct_s]; omega)
theorem zbs_s {α : Type} (b : α → Nat) (f : Nat → α) (n v : Nat) : zbs b f n (v + 1) = zbs b f n v + zct b f n v := by
  show (zbk b (zs f 0 n) v ++ _).length = _
  rw [List.length_append]
  rfl
theorem zbs_le {α : Type} (b : α → Nat) (f : Nat → α) (n : Nat) {u v : Nat} (h : u ≤ v) : zbs b f n u ≤ zbs b f n v := by
  induction v with
  | zero => rw [show u = 0 by omega]; exact Nat.le_refl _
  | succ v ih =>
    by_cases hi : u = v + 1
    · subst hi; exact Nat.le_refl _
    · exact Nat.le_trans (ih (by omega)) (by rw [zbs_s]; omega)
theorem zbs_all {α : Type} {b : α → Nat} (f : Nat → α) (n : Nat) {V : Nat} (h : ∀ x, b x < V) : zbs b f n V = n := (zbk_e (fun x _ => h x)).len.trans (zs_len f 0 n)
theorem zct_lt {α : Type} (b : α → Nat) (f : Nat → α) {i n : Nat} (h : i < n) : zct b f i (b (f i)) < zct b f n (b (f i)) := by
  have h1 := zct_le b f (b (f i)) (show i + 1 ≤ n by omega)
  rw [zct_s, if_pos rfl] at h1
  omega
/-- the next entry goes to the end of its bucket -/
theorem zbucket {α : Type} {b : α → Nat} {f g : Nat → α} {i n V : Nat} (h : i < n) (hb : ∀ x, b x < V) (hg : ∀ v, v < V → zs g (zbs b f n v) (zct b f i v) = (zs f 0 i).filter (fun x => decide (b x = v))) :
    zbs b f n (b (f i)) + zct b f i (b (f i)) < n ∧ ∀ v, v < V → zs (va_up g (zbs b f n (b (f i)) + zct b f i (b (f i))) (f i)) (zbs b f n v) (zct b f (i + 1) v) = (zs f 0 (i + 1)).filter (fun x => decide (b x = v)) := by
  have h0 := hb (f i)
  have h1 := zct_lt b f h
  have h2 := zbs_s b f n (b (f i))
  have h3 := zbs_le b f n (show b (f i) + 1 ≤ V by omega)
  rw [zbs_all f n hb] at h3
  refine ⟨by omega, fun v hv => ?_⟩
  rw [zct_f, zct_s]
  by_cases e : b (f i) = v
  · rw [if_pos e, if_pos e, zs_succ, ← hg v hv, ← e, va_up_self]
    congr 1
    exact zs_congr (fun j hj => va_up_ne _ _ (by omega))
  · rw [if_neg e, if_neg e, List.append_nil, Nat.add_zero, ← hg v hv]
    refine zs_congr (fun j hj => va_up_ne _ _ ?_)
    rcases Nat.lt_or_ge v (b (f i)) with hl | hl
    · have h4 := zbs_le b f n (show v + 1 ≤ b (f i) by omega)
      have h5 := zbs_s b f n v
      have h6 := zct_le b f v (show i ≤ n by omega)
      omega
    · have h4 := zbs_le b f n (show b (f i) + 1 ≤ v by omega)
      omega
theorem zbuckets {α : Type} {b : α → Nat} {f g : Nat → α} {n V : Nat} (hg : ∀ v, v < V → zs g (zbs b f n v) (zct b f n v) = (zs f 0 n).filter (fun x => decide (b x = v))) : ∀ v, v ≤ V → zs g 0 (zbs b f n v) = zbk b (zs f 0 n) v := by
  intro v
  induction v with
  | zero => intro _; exact zs_zero g 0
  | succ v ih =>
    intro hv
    rw [zbs_s, zs_add, ih (by omega), Nat.zero_add, hg v (by omega)]
    rfl
/-- a byte of a key whose bits are turned over -/
def zby (T : Int64) (sh : Nat) (e : Int64 × Int32) : Nat := uN (e.1 ^^^ T) / 2 ^ sh % 256
theorem zby_lt (T : Int64) (sh : Nat) (e : Int64 × Int32) : zby T sh e < 256 := Nat.mod_lt _ (by decide)
theorem uN_byte (y : Int64) : Int64.toInt32 y &&& nI 255 = nI (uN y % 256) := by
  have h1 : (Int64.toInt32 y).toBitVec.toNat = uN y % 4294967296 := by
    show (y.toBitVec.signExtend 32).toNat = _
    rw [BitVec.signExtend_eq_setWidth_of_le _ (by decide), BitVec.toNat_setWidth]
    rfl
  apply Int32.toBitVec_inj.mp
  apply BitVec.eq_of_toNat_eq
  rw [Int32.toBitVec_and, BitVec.toNat_and, h1]
  have h2 : (nI 255).toBitVec.toNat = 2 ^ 8 - 1 := by decide
  rw [h2, Nat.and_two_pow_sub_one_eq_mod]
  have h3 : (nI (uN y % 256)).toBitVec.toNat = (uN y % 256) % 2 ^ 32 := by
    show (BitVec.ofNat 32 (uN y % 256)).toNat = _
    exact BitVec.toNat_ofNat _ _
  rw [h3]
  omega
/-- the bits turned over -/
def ztb (od : Nat) : Int64 := if od = 0 then -9223372036854775808 else if od = 1 then 9223372036854775807 else 0
theorem uN_xmax (x : Int64) : uN (x ^^^ 9223372036854775807) = 18446744073709551615 - uN (x ^^^ (-9223372036854775808)) := by
  have h1 : uN (x ^^^ 9223372036854775807) = uN x ^^^ (2 ^ 63 - 1) := UInt64.toNat_xor _ _
  have h2 : uN (x ^^^ (-9223372036854775808)) = uN x ^^^ 2 ^ 63 := UInt64.toNat_xor _ _
  have hx := uN_lt (x ^^^ (-9223372036854775808))
  rw [h2] at hx ⊢
  rw [h1]
  have hlt := uN_lt x
  generalize uN x = n at *
  have e : 18446744073709551615 - (n ^^^ 2 ^ 63) = 2 ^ 64 - ((n ^^^ 2 ^ 63) + 1) := by omega
  rw [e]
  apply Nat.eq_of_testBit_eq
  intro j
  rw [Nat.testBit_two_pow_sub_succ hx, Nat.testBit_xor, Nat.testBit_xor, Nat.testBit_two_pow_sub_one, Nat.testBit_two_pow]
  rcases Nat.lt_trichotomy j 63 with h | h | h
  · simp [show ¬ 63 = j by omega, h, show j < 64 by omega]
  · subst h; simp
  · have : n.testBit j = false := Nat.testBit_lt_two_pow (Nat.lt_of_lt_of_le hlt (show (18446744073709551616 : Nat) ≤ 2 ^ j from Nat.le_trans (by decide) (Nat.pow_le_pow_right (by decide) (show 64 ≤ j by omega))))
    simp [this, show ¬ j < 63 by omega, show ¬ j < 64 by omega]
theorem zcnt_rank (od : Nat) (h : od = 0 ∨ od = 1 ∨ od = 2) : ∃ C : Int, ∀ x : Int64, zr od x = (if od = 1 then ((uN (x ^^^ ztb od) : Nat) : Int) else ((uN (x ^^^ ztb od) : Nat) : Int)) + C := by
  rcases h with rfl | rfl | rfl
  · refine ⟨-9223372036854775808, fun x => ?_⟩
    rw [if_neg (by decide)]
    show x.toInt = ((uN (x ^^^ (-9223372036854775808)) : Nat) : Int) + _
    have := uN_lt x
    rw [uN_xor, uN_int]
    split <;> omega
  · refine ⟨-9223372036854775807, fun x => ?_⟩
    rw [if_pos rfl]
    show -x.toInt = ((uN (x ^^^ 9223372036854775807) : Nat) : Int) + _
    have := uN_lt x
    rw [uN_xmax, uN_xor, uN_int]
    split <;> omega
  · refine ⟨0, fun x => ?_⟩
    rw [if_neg (by decide)]
    show ((zu x : Nat) : Int) = ((uN (x ^^^ 0) : Nat) : Int) + 0
    rw [Int64.xor_zero, uN_zu, Int.add_zero]
