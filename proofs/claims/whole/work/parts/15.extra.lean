theorem g_ialoadN {Γ : GG} {X : XT} {S : St} {pc : Nat} {ls : List (Nat × Value)} {st : List Value} {own : String} {cc : ByteArray} {mL : Nat} {ret : Option FieldType} {fr lo : Nat} (hX : Cx Γ own cc mL ret fr lo X) {k n i : Nat} {x : Int32} (ha : IsArr k n) (hx : x = nI i) (hi : i < n) (hn : n < 2 ^ 31) (hd : decode cc pc = .ok (.iaload, 1)) (k' : G Γ X S (pc + 1) ls (.int (S.1 k i) :: st)) : G Γ X S pc ls (.int x :: .ref (Γ.1 k) :: st) := by
  subst hx
  refine g_iaload hX ha.1 ha.2 (vp_in_nI hi hn) hd ?_
  rw [nI_clamp (by omega)]
  exact k'
theorem g_iastoreN {Γ : GG} {X : XT} {S : St} {pc : Nat} {ls : List (Nat × Value)} {st : List Value} {own : String} {cc : ByteArray} {mL : Nat} {ret : Option FieldType} {fr lo : Nat} (hX : Cx Γ own cc mL ret fr lo X) {k n i : Nat} {x v : Int32} (ha : IsArr k n) (hx : x = nI i) (hi : i < n) (hn : n < 2 ^ 31) (hd : decode cc pc = .ok (.iastore, 1)) (k' : G Γ X (pI S k i v) (pc + 1) ls st) : G Γ X S pc ls (.int v :: .int x :: .ref (Γ.1 k) :: st) := by
  subst hx
  refine g_iastore hX ha.1 ha.2 (vp_in_nI hi hn) hd ?_
  rw [nI_clamp (by omega)]
  exact k'
theorem g_baloadN {Γ : GG} {X : XT} {S : St} {pc : Nat} {ls : List (Nat × Value)} {st : List Value} {own : String} {cc : ByteArray} {mL : Nat} {ret : Option FieldType} {fr lo : Nat} (hX : Cx Γ own cc mL ret fr lo X) {k n i : Nat} {x : Int32} (hk : k < NC) (hy : lay k = (1, n, [])) (hx : x = nI i) (hi : i < n) (hn : n < 2 ^ 31) (hd : decode cc pc = .ok (.baload, 1)) (k' : G Γ X S (pc + 1) ls (.int (S.1 k i) :: st)) : G Γ X S pc ls (.int x :: .ref (Γ.1 k) :: st) := by
  subst hx
  refine g_baload hX hk hy (vp_in_nI hi hn) hd ?_
  rw [nI_clamp (by omega)]
  exact k'
theorem nar_bool {x : Int32} (h : x = 0 ∨ x = 1) : vp_nar .boolean x = x := by
  rcases h with rfl | rfl <;> decide +kernel
theorem g_bastoreN {Γ : GG} {X : XT} {S : St} {pc : Nat} {ls : List (Nat × Value)} {st : List Value} {own : String} {cc : ByteArray} {mL : Nat} {ret : Option FieldType} {fr lo : Nat} (hX : Cx Γ own cc mL ret fr lo X) {k n i : Nat} {x v : Int32} (hk : k < NC) (hy : lay k = (1, n, [])) (hv : v = 0 ∨ v = 1) (hx : x = nI i) (hi : i < n) (hn : n < 2 ^ 31) (hd : decode cc pc = .ok (.bastore, 1)) (k' : G Γ X (pI S k i v) (pc + 1) ls st) : G Γ X S pc ls (.int v :: .int x :: .ref (Γ.1 k) :: st) := by
  subst hx
  refine g_bastore hX hk hy (vp_in_nI hi hn) hd ?_
  rw [nI_clamp (by omega), nar_bool hv]
  exact k'
theorem g_aaloadN {Γ : GG} {X : XT} {S : St} {pc : Nat} {ls : List (Nat × Value)} {st : List Value} {own : String} {cc : ByteArray} {mL : Nat} {ret : Option FieldType} {fr lo : Nat} (hX : Cx Γ own cc mL ret fr lo X) {k n tg h0 i : Nat} {hs : List Nat} {x : Int32} (hk : k < NC) (ht : tg = 2 ∨ tg = 3) (hy : lay k = (tg, n, hs)) (hx : x = nI i) (hi : i < n) (hn : n < 2 ^ 31) (hh : hs[i]? = some h0) (hd : decode cc pc = .ok (.aaload, 1)) (k' : G Γ X S (pc + 1) ls (.ref (Γ.1 h0) :: st)) : G Γ X S pc ls (.int x :: .ref (Γ.1 k) :: st) := by
  subst hx
  exact g_aaload hX hk ht hy (vp_in_nI hi hn) (by rw [nI_clamp (by omega)]; exact hh) hd k'
theorem g_eq {Γ : GG} {X : XT} {S S' : St} {pc : Nat} {ls ls' : List (Nat × Value)} {st st' : List Value} (h : G Γ X S' pc ls' st') (hS : S = S' := by rfl) (hl : ls = ls' := by rfl) (hs : st = st' := by rfl) : G Γ X S pc ls st := by
  subst hS; subst hl; subst hs; exact h
def inB (x : Int32) (n : Nat) : Prop := ∃ j, j < n ∧ x = nI j
theorem inB_or (x : Int32) {n : Nat} (hn : n < 2 ^ 31) : inB x n ∨ (x < 0 ∨ nI n ≤ x) := by
  rcases pk_ix x hn with h | h | h
  · exact Or.inr (Or.inl h)
  · exact Or.inr (Or.inr h)
  · exact Or.inl h
theorem not_inB {x : Int32} {n : Nat} (hn : n < 2 ^ 31) (h : ¬ inB x n) : x < 0 ∨ nI n ≤ x := (inB_or x hn).resolve_left h
theorem wg50 : Cond.fieldLink RX8 50 RX8 "PART_OF" "[I" ∈ gT := tw 557 (by decide +kernel) rfl
theorem wg53 : Cond.fieldLink RX8 53 RX8 "HOW_MANY_PLACES" "[I" ∈ gT := tw 559 (by decide +kernel) rfl
theorem wg56 : Cond.fieldLink RX8 56 RX8 "LEAST_PLACE" "[I" ∈ gT := tw 561 (by decide +kernel) rfl
theorem wg59 : Cond.fieldLink RX8 59 RX8 "LAST_PLACE" "[I" ∈ gT := tw 563 (by decide +kernel) rfl
