/-! ENTRIES: a row's keys and tags as one -/
def ye (S : YS) (r : Nat) : Nat → Int64 × Int32 := fun j => (gL S (8 + r) j, gI S (14 + r) j)
def yz (S : YS) (r : Nat) (f : Nat → Int64 × Int32) : YS := sI (sL S (8 + r) (fun j => (f j).1)) (14 + r) (fun j => (f j).2)
theorem ye_yz (S : YS) (r : Nat) (f : Nat → Int64 × Int32) : ye (yz S r f) r = f := by
  funext j
  unfold ye yz
  rw [gL_sI, gL_sL, if_pos rfl, gI_sI, if_pos rfl]
theorem ye_yz_ne (S : YS) {r q : Nat} (f : Nat → Int64 × Int32) (h : q ≠ r) : ye (yz S r f) q = ye S q := by
  funext j
  unfold ye yz
  rw [gL_sI, gL_sL, if_neg (by omega), gI_sI, if_neg (by omega), gI_sL]
theorem gF_yz (S : YS) (r c k : Nat) (f : Nat → Int64 × Int32) : gF (yz S r f) c k = gF S c k := rfl
theorem ye_sF (S : YS) (r c k : Nat) (v : Int32) : ye (sF S c k v) r = ye S r := rfl
/-- two states are one where all that can be read is one -/
theorem YS_ext {S T : YS} (h1 : ∀ c, gL S c = gL T c) (h2 : ∀ c, gI S c = gI T c) (h3 : ∀ c k, gF S c k = gF T c k) : S = T := by
  obtain ⟨a, b, d⟩ := S
  obtain ⟨a', b', d'⟩ := T
  have e1 : a = a' := funext h1
  have e2 : b = b' := funext h2
  have e3 : d = d' := funext fun c => funext (h3 c)
  rw [e1, e2, e3]
theorem yz_yz (S : YS) (r : Nat) (f g : Nat → Int64 × Int32) : yz (yz S r f) r g = yz S r g := by
  refine YS_ext (fun c => ?_) (fun c => ?_) (fun c k => rfl)
  · unfold yz
    simp only [gL_sI, gL_sL]
    split <;> rfl
  · unfold yz
    simp only [gI_sI, gI_sL]
    split <;> rfl
theorem yz_self (S : YS) (r : Nat) : yz S r (ye S r) = S := by
  refine YS_ext (fun c => ?_) (fun c => ?_) (fun c k => rfl)
  · unfold yz ye
    simp only [gL_sI, gL_sL]
    split
    · rename_i h; subst h; rfl
    · rfl
  · unfold yz ye
    simp only [gI_sI, gI_sL]
    split
    · rename_i h; subst h; rfl
    · rfl
theorem yz_sF (S : YS) (r c k : Nat) (v : Int32) (f : Nat → Int64 × Int32) : yz (sF S c k v) r f = sF (yz S r f) c k v := rfl
theorem sF_sF (S : YS) (c k : Nat) (v w : Int32) : sF (sF S c k v) c k w = sF S c k w := by
  refine YS_ext (fun c => rfl) (fun c => rfl) (fun c' k' => ?_)
  simp only [gF_sF]
  split <;> rfl
/-- put, take, arraycopy, as the machine does them -/
theorem yz_put (S : YS) (r j : Nat) (k : Int64) (t : Int32) : sI (sL S (8 + r) (vp_updL (gL S (8 + r)) j k)) (14 + r) (upd (gI (sL S (8 + r) (vp_updL (gL S (8 + r)) j k)) (14 + r)) j t) = yz S r (va_up (ye S r) j (k, t)) := by
  refine YS_ext (fun c => ?_) (fun c => ?_) (fun c k => rfl)
  · unfold yz ye
    simp only [gL_sI, gL_sL]
    split
    · funext i; unfold vp_updL va_up; split <;> rfl
    · rfl
  · unfold yz ye
    simp only [gI_sI, gI_sL]
    split
    · funext i; unfold upd va_up; split <;> rfl
    · rfl
theorem yz_cpy (S : YS) (r q sp dp n : Nat) : sI (sL S (8 + r) (va_cpy (gL S (8 + q)) (gL S (8 + r)) sp dp n)) (14 + r) (va_cpy (gI (sL S (8 + r) (va_cpy (gL S (8 + q)) (gL S (8 + r)) sp dp n)) (14 + q)) (gI (sL S (8 + r) (va_cpy (gL S (8 + q)) (gL S (8 + r)) sp dp n)) (14 + r)) sp dp n) = yz S r (va_cpy (ye S q) (ye S r) sp dp n) := by
  refine YS_ext (fun c => ?_) (fun c => ?_) (fun c k => rfl)
  · unfold yz ye
    simp only [gL_sI, gL_sL]
    split
    · funext i; unfold va_cpy; split <;> rfl
    · rfl
  · unfold yz ye
    simp only [gI_sI, gI_sL]
    split
    · funext i; unfold va_cpy; split <;> rfl
    · rfl
