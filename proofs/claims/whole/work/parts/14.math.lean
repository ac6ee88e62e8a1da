theorem mnmax : Cond.static Lib.Math.max.name ∈ gT := tw 688 (by decide +kernel) rfl
theorem mcmax : Cond.code Lib.Math.max.name Lib.Math.max.code 2 (some .int) ∈ gT := tw 689 (by decide +kernel) rfl
theorem mnmin : Cond.static Lib.Math.min.name ∈ gT := tw 450 (by decide +kernel) rfl
theorem mcmin : Cond.code Lib.Math.min.name Lib.Math.min.code 2 (some .int) ∈ gT := tw 451 (by decide +kernel) rfl
theorem mnabs : Cond.static Lib.Math.abs.name ∈ gT := tw 718 (by decide +kernel) rfl
theorem mcabs : Cond.code Lib.Math.abs.name Lib.Math.abs.code 1 (some .int) ∈ gT := tw 719 (by decide +kernel) rfl
theorem mini : Cond.initialized "java/lang/Math" ∈ gT := tw 73 (by decide +kernel) rfl
theorem g_mmax {Γ : GG} {X : XT} {S : St} {pc : Nat} {ls : List (Nat × Value)} {st : List Value} {own : String} {cc : ByteArray} {mL : Nat} {ret : Option FieldType} {fr lo : Nat} (hX : Cx Γ own cc mL ret fr lo X) {idx : Nat} {x y : Int32} (hw : Cond.methodLink own idx Lib.Math.max.name ∈ gT) (hfr : 1 ≤ fr) (hlo : (st.map fun v => v.category).sum + 13 ≤ lo) (hd : decode cc pc = .ok (.invokestatic idx, 3)) (k : G Γ X S (pc + 3) ls (.int (if x < y then y else x) :: st)) : G Γ X S pc ls (.int y :: .int x :: st) := by
  obtain ⟨p, l, e, R, s, m, args, below, meth, c, cells, slots, Q⟩ := X
  obtain ⟨hx, hb, hml, hown, hts, hr, hlk, hR, hK⟩ := hX
  intro H locs la hP hS hl
  exact va_mmax hx hb hl.1.symm hown (hts _ hw) (hts _ mnmax) (hts _ mini) (hts _ mcmax) (Nat.le_trans hfr hR.1) (Nat.le_trans hlo hR.2.1) hR.2.2.1 hR.2.2.2 hd (k H locs la hP hS hl)
theorem g_mmin {Γ : GG} {X : XT} {S : St} {pc : Nat} {ls : List (Nat × Value)} {st : List Value} {own : String} {cc : ByteArray} {mL : Nat} {ret : Option FieldType} {fr lo : Nat} (hX : Cx Γ own cc mL ret fr lo X) {idx : Nat} {x y : Int32} (hw : Cond.methodLink own idx Lib.Math.min.name ∈ gT) (hfr : 1 ≤ fr) (hlo : (st.map fun v => v.category).sum + 13 ≤ lo) (hd : decode cc pc = .ok (.invokestatic idx, 3)) (k : G Γ X S (pc + 3) ls (.int (if y < x then y else x) :: st)) : G Γ X S pc ls (.int y :: .int x :: st) := by
  obtain ⟨p, l, e, R, s, m, args, below, meth, c, cells, slots, Q⟩ := X
  obtain ⟨hx, hb, hml, hown, hts, hr, hlk, hR, hK⟩ := hX
  intro H locs la hP hS hl
  exact va_mmin hx hb hl.1.symm hown (hts _ hw) (hts _ mnmin) (hts _ mini) (hts _ mcmin) (Nat.le_trans hfr hR.1) (Nat.le_trans hlo hR.2.1) hR.2.2.1 hR.2.2.2 hd (k H locs la hP hS hl)
theorem g_mabs {Γ : GG} {X : XT} {S : St} {pc : Nat} {ls : List (Nat × Value)} {st : List Value} {own : String} {cc : ByteArray} {mL : Nat} {ret : Option FieldType} {fr lo : Nat} (hX : Cx Γ own cc mL ret fr lo X) {idx : Nat} {x : Int32} (hw : Cond.methodLink own idx Lib.Math.abs.name ∈ gT) (hfr : 1 ≤ fr) (hlo : (st.map fun v => v.category).sum + 13 ≤ lo) (hd : decode cc pc = .ok (.invokestatic idx, 3)) (k : G Γ X S (pc + 3) ls (.int (if 0 ≤ x then x else 0 - x) :: st)) : G Γ X S pc ls (.int x :: st) := by
  obtain ⟨p, l, e, R, s, m, args, below, meth, c, cells, slots, Q⟩ := X
  obtain ⟨hx, hb, hml, hown, hts, hr, hlk, hR, hK⟩ := hX
  intro H locs la hP hS hl
  exact va_mabs hx hb hl.1.symm hown (hts _ hw) (hts _ mnabs) (hts _ mini) (hts _ mcabs) (Nat.le_trans hfr hR.1) (Nat.le_trans hlo hR.2.1) hR.2.2.1 hR.2.2.2 hd (k H locs la hP hS hl)
theorem wlX1_40 : Cond.methodLink RX1 40 Lib.Math.max.name ∈ gT := tw 687 (by decide +kernel) rfl
theorem sX1_40 {Γ : GG} {X : XT} {S : St} {pc : Nat} {ls : List (Nat × Value)} {st : List Value} {cc : ByteArray} {mL : Nat} {ret : Option FieldType} {fr lo : Nat} (hX : Cx Γ RX1 cc mL ret fr lo X) {x y : Int32} (hfr : 1 ≤ fr) (hlo : (st.map fun v => v.category).sum + 13 ≤ lo) (hd : decode cc pc = .ok (.invokestatic 40, 3)) (k : G Γ X S (pc + 3) ls (.int (if x < y then y else x) :: st)) : G Γ X S pc ls (.int y :: .int x :: st) := g_mmax hX wlX1_40 hfr hlo hd k
theorem wlX2_45 : Cond.methodLink RX2 45 Lib.Math.abs.name ∈ gT := tw 717 (by decide +kernel) rfl
theorem sX2_45 {Γ : GG} {X : XT} {S : St} {pc : Nat} {ls : List (Nat × Value)} {st : List Value} {cc : ByteArray} {mL : Nat} {ret : Option FieldType} {fr lo : Nat} (hX : Cx Γ RX2 cc mL ret fr lo X) {x : Int32} (hfr : 1 ≤ fr) (hlo : (st.map fun v => v.category).sum + 13 ≤ lo) (hd : decode cc pc = .ok (.invokestatic 45, 3)) (k : G Γ X S (pc + 3) ls (.int (if 0 ≤ x then x else 0 - x) :: st)) : G Γ X S pc ls (.int x :: st) := g_mabs hX wlX2_45 hfr hlo hd k
theorem wlX4_47 : Cond.methodLink RX4 47 Lib.Math.min.name ∈ gT := tw 629 (by decide +kernel) rfl
theorem sX4_47 {Γ : GG} {X : XT} {S : St} {pc : Nat} {ls : List (Nat × Value)} {st : List Value} {cc : ByteArray} {mL : Nat} {ret : Option FieldType} {fr lo : Nat} (hX : Cx Γ RX4 cc mL ret fr lo X) {x y : Int32} (hfr : 1 ≤ fr) (hlo : (st.map fun v => v.category).sum + 13 ≤ lo) (hd : decode cc pc = .ok (.invokestatic 47, 3)) (k : G Γ X S (pc + 3) ls (.int (if y < x then y else x) :: st)) : G Γ X S pc ls (.int y :: .int x :: st) := g_mmin hX wlX4_47 hfr hlo hd k
theorem wlX4_79 : Cond.methodLink RX4 79 Lib.Math.max.name ∈ gT := tw 762 (by decide +kernel) rfl
theorem sX4_79 {Γ : GG} {X : XT} {S : St} {pc : Nat} {ls : List (Nat × Value)} {st : List Value} {cc : ByteArray} {mL : Nat} {ret : Option FieldType} {fr lo : Nat} (hX : Cx Γ RX4 cc mL ret fr lo X) {x y : Int32} (hfr : 1 ≤ fr) (hlo : (st.map fun v => v.category).sum + 13 ≤ lo) (hd : decode cc pc = .ok (.invokestatic 79, 3)) (k : G Γ X S (pc + 3) ls (.int (if x < y then y else x) :: st)) : G Γ X S pc ls (.int y :: .int x :: st) := g_mmax hX wlX4_79 hfr hlo hd k
theorem wlX6_63 : Cond.methodLink RX6 63 Lib.Math.min.name ∈ gT := tw 449 (by decide +kernel) rfl
theorem sX6_63 {Γ : GG} {X : XT} {S : St} {pc : Nat} {ls : List (Nat × Value)} {st : List Value} {cc : ByteArray} {mL : Nat} {ret : Option FieldType} {fr lo : Nat} (hX : Cx Γ RX6 cc mL ret fr lo X) {x y : Int32} (hfr : 1 ≤ fr) (hlo : (st.map fun v => v.category).sum + 13 ≤ lo) (hd : decode cc pc = .ok (.invokestatic 63, 3)) (k : G Γ X S (pc + 3) ls (.int (if y < x then y else x) :: st)) : G Γ X S pc ls (.int y :: .int x :: st) := g_mmin hX wlX6_63 hfr hlo hd k
theorem wlX8_107 : Cond.methodLink RX8 107 Lib.Math.min.name ∈ gT := tw 490 (by decide +kernel) rfl
theorem sX8_107 {Γ : GG} {X : XT} {S : St} {pc : Nat} {ls : List (Nat × Value)} {st : List Value} {cc : ByteArray} {mL : Nat} {ret : Option FieldType} {fr lo : Nat} (hX : Cx Γ RX8 cc mL ret fr lo X) {x y : Int32} (hfr : 1 ≤ fr) (hlo : (st.map fun v => v.category).sum + 13 ≤ lo) (hd : decode cc pc = .ok (.invokestatic 107, 3)) (k : G Γ X S (pc + 3) ls (.int (if y < x then y else x) :: st)) : G Γ X S pc ls (.int y :: .int x :: st) := g_mmin hX wlX8_107 hfr hlo hd k
