/-! THE CLAIM OUT OF ONE WALK OF THE LAW'S BODY. Your part is whole_start (and what it stands on); all else here is the same for every law, but numbers. -/
def R_law : String := "OrderBenchLaw"
def lw_P (b : Addr) (xs : List Int32) (args : Array Value) (s : State) : Prop := args = #[.ref b] ∧ s.IntsAt b xs ∧ xs.length ≤ 3584 ∧ (Jvm.Cond.and given_1 narrow_1).before args s = true
def lw_Q (_ : Array Value) (s : State) (o : Outcome) (t : State) : Prop := o = .returned (some (.int 1)) ∧ Framed s o t [] 601024 7293034
def lw_Z (below : List Frame) (a : Array Value) (s : State) : State → Prop := fun t => ∃ o, t.status = .running ∧ Ended t below o ∧ lw_Q a s o t
/-- the law's own end, with 1 on the stack, nothing written that was there before, its room as the claim has it -/
theorem lw_ret {p : Program} {l : Launch} {e : Env} {s : State} {m : MethodId} {below : List Frame} {meth : Method} {c : Code} {b : Nat} (hx : p.tables.exec = Jvm.exec) (hb : c.code = code) (hr : meth.sig.returnType = ret) (hlocks : meth.locks = false) {pc : Nat} {H : Heap} {ls : Array Slot} (hdg : decode code pc = .ok (.ireturn, 1)) : W p l e room_1 s m #[Value.ref b] below meth c H [] 601024 7293034 (lw_Z below #[Value.ref b] s) (F0 m pc ls [.int 1]) := by
  intro T hT X
  obtain ⟨fs, hret, hrun, hended, hW, hframe⟩ := X.leave (v := some (.int 1)) (hlocks := hlocks) (fun h => by rw [hr] at h; cases h)
  have hmeth' : T.vm.method? m = some meth := X.method'
  refine ⟨T.setFrames fs, ?_, .returned (some (.int 1)), hrun, hended, rfl, ⟨_, rfl⟩, hW, hframe⟩
  jvm_step X.here [X.here.top, hx, hb, hdg, hmeth', hr, ret, narrow_b1]
  (try refine ⟨rfl, ?_⟩); (try refine ⟨rfl, ?_⟩)
  first | (intro acts; rw [hret _ acts rfl rfl rfl]) | rw [hret _ _ rfl rfl rfl]
  exact Steps.refl _
/-- what holds at the law's entry: the machine, the code, the tables' words (any of lw_tbl by 'hts w (by decide +kernel)'), the script of L ints xs at the cell b, what the Statement gives of the start (any of its parts by flat_of_before) -/
def lw_At (p : Program) (s : State) (m : MethodId) (meth : Method) (c : Code) (b L : Nat) (xs : Nat → Int32) : Prop :=
  p.tables.exec = Jvm.exec ∧ c.code = code ∧ meth.sig.returnType = ret ∧ c.maxLocals = 8 ∧ s.vm.findClass R_law = some m.cls ∧ (∀ w ∈ lw_tbl, w.before #[Value.ref b] s = true) ∧ va_X b L xs s s.heap ∧ b < s.heap.size ∧ meth.locks = false ∧ (Jvm.Cond.and given_1 narrow_1).before #[Value.ref b] s = true

/-- what the law's walk stands on -/
def yLw (o : YO) (b L : Nat) (xs : Nat → Int32) : Prop := yB o code "OrderBenchLaw" ∧ o.c.maxLocals = 8 ∧ (∀ lev1 n1, lev1 ≤ 32 → n1 ≤ 29 → yFit o lev1 n1) ∧ va_X b L xs o.s o.s.heap ∧ b < o.s.heap.size ∧ b < o.G.B ∧ L ≤ 3584 ∧ o.l.stackTraces = false
section YLW
variable {o : YO} {S : YS} {pc pc' b L : Nat} {xs : Nat → Int32} {lv : List (Nat × Value)} {st : List Value}
theorem y_sld {j : Nat} (hLw : yLw o b L xs) (hd : decode code pc = .ok (.iaload, 1)) (hp : pc + 1 = pc') (hj : j < L) (kk : yW o S pc' lv (.int (xs j) :: st)) : yW o S pc lv (.int (nI j) :: .ref b :: st) := by
  subst hp
  obtain ⟨hB, -, -, hX, hb, hbB, hL, -⟩ := hLw
  refine fun ls H locs hl' hH => va_sld (A := yA o.G.B) hB.1 hB.2.1 hX hb (by unfold yA; omega) hH.2 (vp_in_nI hj (by omega)) hd ?_
  rw [nI_clamp (by omega)]
  exact kk ls H locs hl' hH
theorem y_slen (hLw : yLw o b L xs) (hd : decode code pc = .ok (.arraylength, 1)) (hp : pc + 1 = pc') (kk : yW o S pc' lv (.int (nI L) :: st)) : yW o S pc lv (.ref b :: st) := by
  subst hp
  obtain ⟨hB, -, -, hX, hb, hbB, hL, -⟩ := hLw
  exact fun ls H locs hl' hH => va_slen (A := yA o.G.B) hB.1 hB.2.1 hX hb (by unfold yA; omega) hH.2 hd (kk ls H locs hl' hH)
end YLW
theorem zi_and31 (x : Int32) : ∃ n, n < 32 ∧ x &&& nI 31 = nI n := by
  refine ⟨(x &&& nI 31).toInt.toNat, ?_, ?_⟩
  · have h : (x &&& nI 31).toBitVec.toNat < 32 := by
      show (x.toBitVec &&& 31#32).toNat < 32
      rw [BitVec.toNat_and]
      exact Nat.lt_of_le_of_lt Nat.and_le_right (by decide)
    have h2 : (x &&& nI 31).toInt = ((x &&& nI 31).toBitVec.toNat : Int) := by
      show (x &&& nI 31).toBitVec.toInt = _
      rw [BitVec.toInt_eq_toNat_of_lt (by omega)]
    omega
  · have h : (x &&& nI 31).toBitVec.toNat < 32 := by
      show (x.toBitVec &&& 31#32).toNat < 32
      rw [BitVec.toNat_and]
      exact Nat.lt_of_le_of_lt Nat.and_le_right (by decide)
    have h2 : (x &&& nI 31).toInt = ((x &&& nI 31).toBitVec.toNat : Int) := by
      show (x &&& nI 31).toBitVec.toInt = _
      rw [BitVec.toInt_eq_toNat_of_lt (by omega)]
    exact (nI_toNat (by omega)).symm
theorem zi_sub7 {L i : Nat} (hL : L ≤ 3584) (hi : i ≤ 4000) : nI L - nI 7 < nI i ↔ L < i + 7 := by
  rw [Int32.lt_iff_toInt_lt, Int32.toInt_sub, nI_toInt (by omega), nI_toInt (by omega), nI_toInt (by omega), Int.bmod_eq_of_le (by omega) (by omega)]
  omega
