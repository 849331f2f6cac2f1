/-! PURE ROWS 2: the eight orders as ranks, one whole number a key; entries with tags -/
/-- bit k of a long; how many of the first k bits are set; the first k bits turned round -/
def zb (x : Int64) (k : Nat) : Nat := if x.toBitVec.getLsbD k then 1 else 0
def zn (x : Int64) : Nat → Nat
  | 0 => 0
  | k + 1 => zn x k + zb x k
def zv (x : Int64) : Nat → Nat
  | 0 => 0
  | k + 1 => 2 * zv x k + zb x k
def zu (x : Int64) : Nat := x.toBitVec.toNat
def zr (o : Nat) (x : Int64) : Int :=
  if o = 0 then x.toInt else if o = 1 then -x.toInt else if o = 2 then (zu x : Int)
  else if o = 3 then (zn x 64 : Int) * 18446744073709551616 + x.toInt else if o = 4 then ((zu x % 2 : Nat) : Int) else if o = 5 then ((zu x % 256 : Nat) : Int)
  else if o = 6 then (x.toInt.natAbs : Int) * 18446744073709551616 + x.toInt else (zv x 64 : Int)
/-- by key, then by tag, then by the key itself -/
def zf (o : Nat) (e : Int64 × Int32) : Int := (zr o e.1 * 4294967296 + e.2.toInt) * 18446744073709551616 + e.1.toInt
theorem zw_b (x : Int64) : -9223372036854775808 ≤ x.toInt ∧ x.toInt < 9223372036854775808 := ⟨x.le_toInt, x.toInt_lt⟩
theorem zw_i (x : Int32) : -2147483648 ≤ x.toInt ∧ x.toInt < 2147483648 := ⟨x.le_toInt, x.toInt_lt⟩
theorem zf_inj {o : Nat} {e e' : Int64 × Int32} (h : zf o e = zf o e') : e = e' := by
  unfold zf at h
  have h1 := zw_b e.1
  have h2 := zw_b e'.1
  have h3 := zw_i e.2
  have h4 := zw_i e'.2
  have h5 : e.1.toInt = e'.1.toInt := by omega
  have h6 : e.2.toInt = e'.2.toInt := by omega
  exact Prod.ext (Int64.toInt_inj.mp h5) (Int32.toInt_inj.mp h6)
theorem zf_lt {o : Nat} {e e' : Int64 × Int32} : zf o e < zf o e' ↔ zr o e.1 < zr o e'.1 ∨ (zr o e.1 = zr o e'.1 ∧ (e.2.toInt < e'.2.toInt ∨ (e.2.toInt = e'.2.toInt ∧ e.1.toInt < e'.1.toInt))) := by
  unfold zf
  have h1 := zw_b e.1
  have h2 := zw_b e'.1
  have h3 := zw_i e.2
  have h4 := zw_i e'.2
  omega
/-- the judge's rank: by key alone, or with tags -/
def zq (o : Nat) (t : Bool) (e : Int64 × Int32) : Int := if t then zf o e else zr o e.1
/-- what comparing answers -/
def zg (a b : Int) : Int32 := if a < b then -1 else if b < a then 1 else 0
theorem zg_lt {a b : Int} : zg a b < 0 ↔ a < b := by
  unfold zg
  split
  · rename_i h; simp [h]
  · rename_i h
    split
    · simp [h]
    · simp [h]
theorem zg_0 {a b : Int} : zg a b = 0 ↔ a = b := by
  unfold zg
  split
  · rename_i h
    constructor
    · intro q; exact absurd q (by decide)
    · intro q; omega
  · rename_i h
    split
    · rename_i h2
      constructor
      · intro q; exact absurd q (by decide)
      · intro q; omega
    · rename_i h2
      constructor
      · intro _; omega
      · intro _; rfl
theorem zg_le {a b : Int} : zg a b < 1 ↔ a ≤ b := by
  unfold zg
  split
  · rename_i h
    constructor
    · intro _; omega
    · intro _; decide
  · rename_i h
    split
    · rename_i h2
      constructor
      · intro q; exact absurd q (by decide)
      · intro q; omega
    · rename_i h2
      constructor
      · intro _; omega
      · intro _; decide
theorem zg_ge {a b : Int} : 0 ≤ zg a b ↔ b ≤ a := by
  unfold zg
  split
  · rename_i h
    constructor
    · intro q; exact absurd q (by decide)
    · intro q; omega
  · rename_i h
    split
    · rename_i h2
      constructor
      · intro _; omega
      · intro _; decide
    · rename_i h2
      constructor
      · intro _; omega
      · intro _; decide
theorem zb_01 (x : Int64) (k : Nat) : zb x k = 0 ∨ zb x k = 1 := by
  unfold zb
  split
  · exact Or.inr rfl
  · exact Or.inl rfl
/-- the same up to bit k, then different: turned round, the one with 0 there comes first -/
theorem zv_eq {x y : Int64} : ∀ k, (∀ j, j < k → zb x j = zb y j) → zv x k = zv y k := by
  intro k
  induction k with
  | zero => intro _; rfl
  | succ k ih =>
    intro h
    unfold zv
    rw [ih (fun j hj => h j (by omega)), h k (by omega)]
theorem zv_lt {x y : Int64} {k : Nat} (h0 : zb x k = 0) (h1 : zb y k = 1) (he : ∀ j, j < k → zb x j = zb y j) : ∀ n, k < n → zv x n < zv y n := by
  intro n
  induction n with
  | zero => intro h; omega
  | succ n ih =>
    intro h
    unfold zv
    by_cases hk : n = k
    · subst hk
      have := zv_eq n he
      omega
    · have h2 := ih (by omega)
      have h3 := zb_01 x n
      have h4 := zb_01 y n
      omega
