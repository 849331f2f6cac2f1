/-! WHAT STANDS OUTSIDE OUR CELLS: the table of gaps, Throwable's two statics, the texts of exceptions, classes that aren't each other's -/
/-- numbers of classes, addresses, classes of arrays, the first cell that is ours -/
abbrev YG : Type := va_G × (Nat → Nat) × (Nat → ClassId) × Nat
abbrev YG.D (g : YG) : va_G := g.1
abbrev YG.ad (g : YG) : Nat → Nat := g.2.1
abbrev YG.ca (g : YG) : Nat → ClassId := g.2.2.1
abbrev YG.B (g : YG) : Nat := g.2.2.2
/-- the cells that may change: those from B on -/
def yA (B : Nat) : Nat → Prop := fun q => B ≤ q
def zgaps (k : Nat) : Nat := [701, 301, 132, 57, 23, 10, 4, 1].getD k 0
def ystr : List (Nat × String) := [(215, "there is no such row"), (59, "the row is full"), (70, "a row has 0 to 1024 entries"), (73, "there is no such kind"), (90, "the row has not as many entries"), (218, "there is no such entry"), (220, "there is no such order"), (222, "there is no such way"), (227, "that way is not for that order"), (229, "the row is not in this order"), (190, "there is no room for all entries of both rows")]
def yXI : String := "java/lang/IndexOutOfBoundsException"
def yXS : String := "java/lang/IllegalStateException"
def yXA : String := "java/lang/IllegalArgumentException"
def ync : List (String × String) := [(yXA, yXS), (yXA, yXI), (yXS, yXA), (yXS, yXI), (yXI, yXA), (yXI, yXS)]
def yXt (g : YG) (s : State) : Prop :=
  (∃ gp : Nat, va_Z "OrderBench$Insertion" "GAPS" "[I" (.ref gp) (yA g.B) s s.heap ∧ va_T .int gp 8 (fun k => .int (nI (zgaps k))) (yA g.B) s s.heap) ∧
  vx_Zq Bundle.tN "UNASSIGNED_STACK" Bundle.steD (yA g.B) s s.heap ∧ vx_Zq Bundle.tN "SUPPRESSED_SENTINEL" Bundle.listD (yA g.B) s s.heap ∧
  (∀ q ∈ ystr, ∃ sa : Nat, vk_R "OrderBench" q.1 q.2 sa s) ∧ (∀ q ∈ ync, va_Nc q.1 q.2 s)
theorem yXt_warm {g : YG} {s U : State} (hW : s.WarmedH U.vm) (hk : ∀ a : Nat, a < s.heap.size → ¬ yA g.B a → U.heap[a]? = s.heap[a]?) (h : yXt g s) : yXt g U := by
  obtain ⟨⟨gp, h1, h2⟩, h3, h4, h5, h6⟩ := h
  refine ⟨⟨gp, (h1.kept hk).moved hW.alike, (h2.kept hk).moved hW.alike⟩, (h3.kept hk).moved hW.alike, (h4.kept hk).moved hW.alike, fun q hq => ?_, fun q hq => va_Nc.moved hW.alike (h6 q hq)⟩
  obtain ⟨sa, h⟩ := h5 q hq
  exact ⟨sa, h.warm hW⟩
