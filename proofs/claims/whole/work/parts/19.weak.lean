/-- fewer locals are enough -/
def asub : List (Nat × Value) → List (Nat × Value) → Prop
  | [], _ => True
  | q :: l, ls => aget ls q.1 = some q.2 ∧ asub l ls
theorem as_n {ls : List (Nat × Value)} : asub [] ls := trivial
theorem as_c {q : Nat × Value} {l ls : List (Nat × Value)} (h : aget ls q.1 = some q.2) (t : asub l ls) : asub (q :: l) ls := ⟨h, t⟩
theorem asub_mem : ∀ {l ls : List (Nat × Value)}, asub l ls → ∀ q ∈ l, q ∈ ls := by
  intro l
  induction l with
  | nil => intro ls _ q h; cases h
  | cons p l ih =>
    intro ls h q hq
    rcases List.mem_cons.mp hq with rfl | hq
    · exact aget_mem h.1
    · exact ih h.2 q hq
theorem g_weak {Γ : GG} {X : XT} {S : St} {pc : Nat} {ls ls' : List (Nat × Value)} {st : List Value} (h : G Γ X S pc ls' st) (hs : asub ls' ls) : G Γ X S pc ls st := by
  obtain ⟨p, l, e, R, s, m, args, below, meth, c, cells, slots, Q⟩ := X
  intro H locs la hP hS hl
  exact h H locs la hP hS ⟨hl.1, hl.2.1, fun q hq => hl.2.2 q (asub_mem hs q hq)⟩
