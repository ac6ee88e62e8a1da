/-! the law: its script, its end -/
def ScX (Γ : GG) (b L : Nat) (xs : Nat → Int32) (X : XT) : Prop := match X with
  | (p, l, e, R, s, m, args, below, meth, c, cells, slots, Q) => va_X b L xs s s.heap ∧ b < s.heap.size ∧ ¬ AA Γ b ∧ L ≤ 3072 ∧ ∀ (H : Heap) (locs : List Loc) (la : Array Slot) (pc : Nat), va_S (AA Γ) s.heap H locs → decode cL_law pc = .ok (.ireturn, 1) → W p l e R s m args below meth c H locs cells slots Q (F0 m pc la [.int 1])
theorem g_sld {Γ : GG} {X : XT} {S : St} {pc : Nat} {ls : List (Nat × Value)} {st : List Value} {own : String} {cc : ByteArray} {mL : Nat} {ret : Option FieldType} {fr lo : Nat} (hX : Cx Γ own cc mL ret fr lo X) {b L : Nat} {xs : Nat → Int32} (hC : ScX Γ b L xs X) {x : Int32} {j : Nat} (he : x = nI j) (hj : j < L) (hd : decode cc pc = .ok (.iaload, 1)) (k : G Γ X S (pc + 1) ls (.int (xs j) :: st)) : G Γ X S pc ls (.int x :: .ref b :: st) := by
  subst he
  obtain ⟨p, l, e, R, s, m, args, below, meth, c, cells, slots, Q⟩ := X
  obtain ⟨hx, hb, hml, hown, hts, hr, hlk, hR, hK⟩ := hX
  obtain ⟨c1, c2, c3, c4, -⟩ := hC
  intro H locs la hP hS hl
  refine va_sld hx hb c1 c2 c3 hS (vp_in_nI hj (by omega)) hd ?_
  rw [nI_clamp (by omega)]
  exact k H locs la hP hS hl
theorem g_slen {Γ : GG} {X : XT} {S : St} {pc : Nat} {ls : List (Nat × Value)} {st : List Value} {own : String} {cc : ByteArray} {mL : Nat} {ret : Option FieldType} {fr lo : Nat} (hX : Cx Γ own cc mL ret fr lo X) {b L : Nat} {xs : Nat → Int32} (hC : ScX Γ b L xs X) (hd : decode cc pc = .ok (.arraylength, 1)) (k : G Γ X S (pc + 1) ls (.int (nI L) :: st)) : G Γ X S pc ls (.ref b :: st) := by
  obtain ⟨p, l, e, R, s, m, args, below, meth, c, cells, slots, Q⟩ := X
  obtain ⟨hx, hb, hml, hown, hts, hr, hlk, hR, hK⟩ := hX
  obtain ⟨c1, c2, c3, c4, -⟩ := hC
  intro H locs la hP hS hl
  exact va_slen hx hb c1 c2 c3 hS hd (k H locs la hP hS hl)
theorem g_end {Γ : GG} {X : XT} {S : St} {pc : Nat} {ls : List (Nat × Value)} {b L : Nat} {xs : Nat → Int32} (hC : ScX Γ b L xs X) (hd : decode cL_law pc = .ok (.ireturn, 1)) : G Γ X S pc ls [.int 1] := by
  obtain ⟨p, l, e, R, s, m, args, below, meth, c, cells, slots, Q⟩ := X
  obtain ⟨-, -, -, -, c5⟩ := hC
  intro H locs la hP hS hl
  exact c5 H locs la pc hS hd
abbrev lsL (Γ : GG) (b i : Nat) : List (Nat × Value) := [(0, .ref b), (1, .ref (Γ.1 48)), (2, .ref (Γ.1 67)), (3, .int (nI i))]
