/-! what the law knows at its entry -/
theorem lt_in {w : Cond} (i : Nat) (h : lw_tbl[i]? = some w) : w ∈ lw_tbl := List.mem_of_getElem? h
theorem nestL_in : ∀ q ∈ nestL, Cond.methodLinkNest q.1 q.2.1 q.2.2.1 q.2.2.2 ∈ lw_tbl := by decide +kernel
theorem nestC_in : ∀ q ∈ nestC, Cond.methodLinkNest q.1 q.2.1 q.2.2.1 q.2.2.2 ∈ lw_tbl := by decide +kernel
theorem known_D {s : State} {args : Array Value} (hts : ∀ w ∈ lw_tbl, w.before args s = true) : ∃ D : va_G, ∀ (k : Nat) (q : vw_C), classes[k]? = some q → u_Kn s q.1 q.2.1 q.2.2 (D.1 k) (D.2 k) := by
  obtain ⟨c0, i0, h0⟩ := u_known (C := RX0) (T := TX0) (N := 6) (n := 6) hts (fun w hw => gT_in (i_X0 w hw)) (hts (.instantiable RX0 6) (lt_in 249 (by decide +kernel)))
  obtain ⟨c1, i1, h1⟩ := u_known (C := RX1) (T := TX1) (N := 4) (n := 4) hts (fun w hw => gT_in (i_X1 w hw)) (hts (.instantiable RX1 4) (lt_in 203 (by decide +kernel)))
  obtain ⟨c2, i2, h2⟩ := u_known (C := RX2) (T := TX2) (N := 5) (n := 5) hts (fun w hw => gT_in (i_X2 w hw)) (hts (.instantiable RX2 5) (lt_in 225 (by decide +kernel)))
  obtain ⟨c3, i3, h3⟩ := u_known (C := RX3) (T := TX3) (N := 2) (n := 2) hts (fun w hw => gT_in (i_X3 w hw)) (hts (.instantiable RX3 2) (lt_in 182 (by decide +kernel)))
  obtain ⟨c4, i4, h4⟩ := u_known (C := RX4) (T := TX4) (N := 2) (n := 2) hts (fun w hw => gT_in (i_X4 w hw)) (hts (.instantiable RX4 2) (lt_in 176 (by decide +kernel)))
  obtain ⟨c5, i5, h5⟩ := u_known (C := RX5) (T := TX5) (N := 3) (n := 3) hts (fun w hw => gT_in (i_X5 w hw)) (hts (.instantiable RX5 3) (lt_in 155 (by decide +kernel)))
  obtain ⟨c6, i6, h6⟩ := u_known (C := RX6) (T := TX6) (N := 5) (n := 5) hts (fun w hw => gT_in (i_X6 w hw)) (hts (.instantiable RX6 5) (lt_in 89 (by decide +kernel)))
  obtain ⟨c7, i7, h7⟩ := u_known (C := RX7) (T := TX7) (N := 4) (n := 4) hts (fun w hw => gT_in (i_X7 w hw)) (hts (.instantiable RX7 4) (lt_in 275 (by decide +kernel)))
  obtain ⟨c8, i8, h8⟩ := u_known (C := RX8) (T := TX8) (N := 7) (n := 7) hts (fun w hw => gT_in (i_X8 w hw)) (hts (.instantiable RX8 7) (lt_in 122 (by decide +kernel)))
  obtain ⟨c9, i9, h9⟩ := u_known (C := RX9) (T := TX9) (N := 17) (n := 17) hts (fun w hw => gT_in (i_X9 w hw)) (hts (.instantiable RX9 17) (lt_in 79 (by decide +kernel)))
  obtain ⟨c10, i10, h10⟩ := u_known (C := RX10) (T := TX10) (N := 39) (n := 39) hts (fun w hw => gT_in (i_X10 w hw)) (hts (.instantiable RX10 39) (lt_in 867 (by decide +kernel)))
  refine ⟨(fun k => if k = 0 then c0 else if k = 1 then c1 else if k = 2 then c2 else if k = 3 then c3 else if k = 4 then c4 else if k = 5 then c5 else if k = 6 then c6 else if k = 7 then c7 else if k = 8 then c8 else if k = 9 then c9 else c10, fun k => if k = 0 then i0 else if k = 1 then i1 else if k = 2 then i2 else if k = 3 then i3 else if k = 4 then i4 else if k = 5 then i5 else if k = 6 then i6 else if k = 7 then i7 else if k = 8 then i8 else if k = 9 then i9 else i10), ?_⟩
  intro k q hq
  match k, hq with
  | 0, hq => cases hq; exact h0
  | 1, hq => cases hq; exact h1
  | 2, hq => cases hq; exact h2
  | 3, hq => cases hq; exact h3
  | 4, hq => cases hq; exact h4
  | 5, hq => cases hq; exact h5
  | 6, hq => cases hq; exact h6
  | 7, hq => cases hq; exact h7
  | 8, hq => cases hq; exact h8
  | 9, hq => cases hq; exact h9
  | 10, hq => cases hq; exact h10
  | k + 11, hq => simp [classes] at hq
theorem known_A {s : State} {args : Array Value} {D : va_G} (hts : ∀ w ∈ lw_tbl, w.before args s = true) (hD : ∀ (k : Nat) (q : vw_C), classes[k]? = some q → u_Kn s q.1 q.2.1 q.2.2 (D.1 k) (D.2 k)) : ∃ cA : Nat → ClassId, KnC D cA s := by
  obtain ⟨c0, k0, m0, a1, a2, a3⟩ := Cond.arrayClass_spec (hts (.arrayClass .int) (lt_in 120 (by decide +kernel)))
  obtain ⟨c1, k1, m1, b1, b2, b3⟩ := Cond.arrayClass_spec (hts (.arrayClass .boolean) (lt_in 174 (by decide +kernel)))
  have hov := (hts (.arrayOver (.object RX7)) (lt_in 87 (by decide +kernel)))
  obtain ⟨m2, c2, k2, d1, -, d3, d4, d5⟩ := Cond.arrayOver_spec hov
  obtain ⟨m3, c3, k3, e1, -, e3, e4, e5⟩ := arrayOverA_spec (hts (.arrayOver (.array .int)) (lt_in 128 (by decide +kernel)))
  have em : m3 = c0 := Option.some.inj (e1.symm.trans a1)
  subst em
  refine ⟨fun k => if k = 0 then m3 else if k = 1 then c1 else if k = 2 then c2 else c3, ⟨hD, fun k q hk => ?_⟩, fun q hq => va_Nw.of rfl (hts _ (nestC_in q hq)), va_AO.of hov, ⟨k3, e3, e4⟩⟩
  match k, hk with
  | 0, hk => cases hk; exact ⟨fun n z => ⟨(fun k h => by cases h), k0, a2, m0, a3⟩, a1⟩
  | 1, hk => cases hk; exact ⟨fun n z => ⟨(fun k h => by cases h), k1, b2, m1, b3⟩, b1⟩
  | 2, hk => cases hk; exact ⟨fun n z => ⟨(fun k h => by cases h), k2, d3, m2, d4⟩, ⟨k2, m2, d3, d4, d1, d5⟩⟩
  | 3, hk => cases hk; exact ⟨fun n z => ⟨(fun k h => by cases h), k3, e3, m3, e4⟩, e5⟩
  | k + 4, hk => simp [tysC] at hk
theorem known_s0 {s : State} {args : Array Value} (hts : ∀ w ∈ lw_tbl, w.before args s = true) (hs : ∀ c ∈ flatC (Jvm.Cond.and given_1 narrow_1), c.before args s = true) {A : Nat → Prop} (hA : ∀ a : Nat, a < s.heap.size → ¬ A a) : ∃ t : Nat, va_Z RX8 "PART_OF" "[I" (.ref t) A s s.heap ∧ va_T .int t 5 (fun j => .int ((sVl.getD 0 []).getD j 0)) A s s.heap := by
  obtain ⟨t, ht, hT⟩ := va_Tof (tm := (.static "MadeTraffic$Tape" "PART_OF" "[I")) (ty := .int) (N := 5) (f := fun j => .int ((sVl.getD 0 []).getD j 0)) (A := A) (by decide) (hs (.arrayOf (.static "MadeTraffic$Tape" "PART_OF" "[I") .int) (by decide +kernel)) (va_eqt (hs (.eq (.length (.static "MadeTraffic$Tape" "PART_OF" "[I")) (.int 5)) (by decide +kernel))) (fun j hj => by
    rcases (by omega : j = 0 ∨ j = 1 ∨ j = 2 ∨ j = 3 ∨ j = 4) with rfl | rfl | rfl | rfl | rfl
    · exact va_eqt (hs (.eq (.elem (.static "MadeTraffic$Tape" "PART_OF" "[I") (.int 0)) (.int 0)) (by decide +kernel))
    · exact va_eqt (hs (.eq (.elem (.static "MadeTraffic$Tape" "PART_OF" "[I") (.int 1)) (.int 1)) (by decide +kernel))
    · exact va_eqt (hs (.eq (.elem (.static "MadeTraffic$Tape" "PART_OF" "[I") (.int 2)) (.int 1)) (by decide +kernel))
    · exact va_eqt (hs (.eq (.elem (.static "MadeTraffic$Tape" "PART_OF" "[I") (.int 3)) (.int 2)) (by decide +kernel))
    · exact va_eqt (hs (.eq (.elem (.static "MadeTraffic$Tape" "PART_OF" "[I") (.int 4)) (.int 3)) (by decide +kernel))) hA
  exact ⟨t, va_Zref (hts (.laysStatic "MadeTraffic$Tape" "PART_OF" "[I") (lt_in 558 (by decide +kernel))) (hts (.initialized "MadeTraffic$Tape") (lt_in 61 (by decide +kernel))) ht hA, hT⟩
theorem known_s1 {s : State} {args : Array Value} (hts : ∀ w ∈ lw_tbl, w.before args s = true) (hs : ∀ c ∈ flatC (Jvm.Cond.and given_1 narrow_1), c.before args s = true) {A : Nat → Prop} (hA : ∀ a : Nat, a < s.heap.size → ¬ A a) : ∃ t : Nat, va_Z RX8 "HOW_MANY_PLACES" "[I" (.ref t) A s s.heap ∧ va_T .int t 5 (fun j => .int ((sVl.getD 1 []).getD j 0)) A s s.heap := by
  obtain ⟨t, ht, hT⟩ := va_Tof (tm := (.static "MadeTraffic$Tape" "HOW_MANY_PLACES" "[I")) (ty := .int) (N := 5) (f := fun j => .int ((sVl.getD 1 []).getD j 0)) (A := A) (by decide) (hs (.arrayOf (.static "MadeTraffic$Tape" "HOW_MANY_PLACES" "[I") .int) (by decide +kernel)) (va_eqt (hs (.eq (.length (.static "MadeTraffic$Tape" "HOW_MANY_PLACES" "[I")) (.int 5)) (by decide +kernel))) (fun j hj => by
    rcases (by omega : j = 0 ∨ j = 1 ∨ j = 2 ∨ j = 3 ∨ j = 4) with rfl | rfl | rfl | rfl | rfl
    · exact va_eqt (hs (.eq (.elem (.static "MadeTraffic$Tape" "HOW_MANY_PLACES" "[I") (.int 0)) (.int 1)) (by decide +kernel))
    · exact va_eqt (hs (.eq (.elem (.static "MadeTraffic$Tape" "HOW_MANY_PLACES" "[I") (.int 1)) (.int 1)) (by decide +kernel))
    · exact va_eqt (hs (.eq (.elem (.static "MadeTraffic$Tape" "HOW_MANY_PLACES" "[I") (.int 2)) (.int 0)) (by decide +kernel))
    · exact va_eqt (hs (.eq (.elem (.static "MadeTraffic$Tape" "HOW_MANY_PLACES" "[I") (.int 3)) (.int 1)) (by decide +kernel))
    · exact va_eqt (hs (.eq (.elem (.static "MadeTraffic$Tape" "HOW_MANY_PLACES" "[I") (.int 4)) (.int 2)) (by decide +kernel))) hA
  exact ⟨t, va_Zref (hts (.laysStatic "MadeTraffic$Tape" "HOW_MANY_PLACES" "[I") (lt_in 560 (by decide +kernel))) (hts (.initialized "MadeTraffic$Tape") (lt_in 61 (by decide +kernel))) ht hA, hT⟩
theorem known_s2 {s : State} {args : Array Value} (hts : ∀ w ∈ lw_tbl, w.before args s = true) (hs : ∀ c ∈ flatC (Jvm.Cond.and given_1 narrow_1), c.before args s = true) {A : Nat → Prop} (hA : ∀ a : Nat, a < s.heap.size → ¬ A a) : ∃ t : Nat, va_Z RX8 "LEAST_PLACE" "[I" (.ref t) A s s.heap ∧ va_T .int t 5 (fun j => .int ((sVl.getD 2 []).getD j 0)) A s s.heap := by
  obtain ⟨t, ht, hT⟩ := va_Tof (tm := (.static "MadeTraffic$Tape" "LEAST_PLACE" "[I")) (ty := .int) (N := 5) (f := fun j => .int ((sVl.getD 2 []).getD j 0)) (A := A) (by decide) (hs (.arrayOf (.static "MadeTraffic$Tape" "LEAST_PLACE" "[I") .int) (by decide +kernel)) (va_eqt (hs (.eq (.length (.static "MadeTraffic$Tape" "LEAST_PLACE" "[I")) (.int 5)) (by decide +kernel))) (fun j hj => by
    rcases (by omega : j = 0 ∨ j = 1 ∨ j = 2 ∨ j = 3 ∨ j = 4) with rfl | rfl | rfl | rfl | rfl
    · exact va_eqt (hs (.eq (.elem (.static "MadeTraffic$Tape" "LEAST_PLACE" "[I") (.int 0)) (.int 0)) (by decide +kernel))
    · exact va_eqt (hs (.eq (.elem (.static "MadeTraffic$Tape" "LEAST_PLACE" "[I") (.int 1)) (.int 0)) (by decide +kernel))
    · exact va_eqt (hs (.eq (.elem (.static "MadeTraffic$Tape" "LEAST_PLACE" "[I") (.int 2)) (.int 0)) (by decide +kernel))
    · exact va_eqt (hs (.eq (.elem (.static "MadeTraffic$Tape" "LEAST_PLACE" "[I") (.int 3)) (.int 1)) (by decide +kernel))
    · exact va_eqt (hs (.eq (.elem (.static "MadeTraffic$Tape" "LEAST_PLACE" "[I") (.int 4)) (.int 0)) (by decide +kernel))) hA
  exact ⟨t, va_Zref (hts (.laysStatic "MadeTraffic$Tape" "LEAST_PLACE" "[I") (lt_in 562 (by decide +kernel))) (hts (.initialized "MadeTraffic$Tape") (lt_in 61 (by decide +kernel))) ht hA, hT⟩
theorem known_s3 {s : State} {args : Array Value} (hts : ∀ w ∈ lw_tbl, w.before args s = true) (hs : ∀ c ∈ flatC (Jvm.Cond.and given_1 narrow_1), c.before args s = true) {A : Nat → Prop} (hA : ∀ a : Nat, a < s.heap.size → ¬ A a) : ∃ t : Nat, va_Z RX8 "LAST_PLACE" "[I" (.ref t) A s s.heap ∧ va_T .int t 5 (fun j => .int ((sVl.getD 3 []).getD j 0)) A s s.heap := by
  obtain ⟨t, ht, hT⟩ := va_Tof (tm := (.static "MadeTraffic$Tape" "LAST_PLACE" "[I")) (ty := .int) (N := 5) (f := fun j => .int ((sVl.getD 3 []).getD j 0)) (A := A) (by decide) (hs (.arrayOf (.static "MadeTraffic$Tape" "LAST_PLACE" "[I") .int) (by decide +kernel)) (va_eqt (hs (.eq (.length (.static "MadeTraffic$Tape" "LAST_PLACE" "[I")) (.int 5)) (by decide +kernel))) (fun j hj => by
    rcases (by omega : j = 0 ∨ j = 1 ∨ j = 2 ∨ j = 3 ∨ j = 4) with rfl | rfl | rfl | rfl | rfl
    · exact va_eqt (hs (.eq (.elem (.static "MadeTraffic$Tape" "LAST_PLACE" "[I") (.int 0)) (.int 9)) (by decide +kernel))
    · exact va_eqt (hs (.eq (.elem (.static "MadeTraffic$Tape" "LAST_PLACE" "[I") (.int 1)) (.int 9)) (by decide +kernel))
    · exact va_eqt (hs (.eq (.elem (.static "MadeTraffic$Tape" "LAST_PLACE" "[I") (.int 2)) (.int 0)) (by decide +kernel))
    · exact va_eqt (hs (.eq (.elem (.static "MadeTraffic$Tape" "LAST_PLACE" "[I") (.int 3)) (.int 9)) (by decide +kernel))
    · exact va_eqt (hs (.eq (.elem (.static "MadeTraffic$Tape" "LAST_PLACE" "[I") (.int 4)) (.int 2)) (by decide +kernel))) hA
  exact ⟨t, va_Zref (hts (.laysStatic "MadeTraffic$Tape" "LAST_PLACE" "[I") (lt_in 564 (by decide +kernel))) (hts (.initialized "MadeTraffic$Tape") (lt_in 61 (by decide +kernel))) ht hA, hT⟩
def ktm (i : Nat) : Term := .string "MadeTraffic$Tape" (kTx.getD i (0, "")).1
theorem known_k {s : State} {args : Array Value} (hs : ∀ c ∈ flatC (Jvm.Cond.and given_1 narrow_1), c.before args s = true) {A : Nat → Prop} (hA : ∀ a : Nat, a < s.heap.size → ¬ A a) : ∃ kA kV : Nat → Nat, vk_S 5 kLen kByt kA kV A s s.heap ∧ ∀ i : Nat, i < 5 → (ktm i).eval args s none [] s = some (.ref (kA i)) := by
  refine vk_Sof (tm := ktm) (by decide) (fun i hi => ?_) (fun i hi => ?_) (fun i hi => ?_) (fun i hi => ?_) (fun i hi j hj => ?_) (fun i j hi hj hne => ?_) hA
  · rcases (by omega : i = 0 ∨ i = 1 ∨ i = 2 ∨ i = 3 ∨ i = 4) with rfl | rfl | rfl | rfl | rfl
    · exact hs (.exactly (.string "MadeTraffic$Tape" 71) "java/lang/String") (by decide +kernel)
    · exact hs (.exactly (.string "MadeTraffic$Tape" 77) "java/lang/String") (by decide +kernel)
    · exact hs (.exactly (.string "MadeTraffic$Tape" 79) "java/lang/String") (by decide +kernel)
    · exact hs (.exactly (.string "MadeTraffic$Tape" 81) "java/lang/String") (by decide +kernel)
    · exact hs (.exactly (.string "MadeTraffic$Tape" 83) "java/lang/String") (by decide +kernel)
  · rcases (by omega : i = 0 ∨ i = 1 ∨ i = 2 ∨ i = 3 ∨ i = 4) with rfl | rfl | rfl | rfl | rfl
    · exact hs (.eq (.field (.string "MadeTraffic$Tape" 71) "java/lang/String" "coder" "B") (.int 0)) (by decide +kernel)
    · exact hs (.eq (.field (.string "MadeTraffic$Tape" 77) "java/lang/String" "coder" "B") (.int 0)) (by decide +kernel)
    · exact hs (.eq (.field (.string "MadeTraffic$Tape" 79) "java/lang/String" "coder" "B") (.int 0)) (by decide +kernel)
    · exact hs (.eq (.field (.string "MadeTraffic$Tape" 81) "java/lang/String" "coder" "B") (.int 0)) (by decide +kernel)
    · exact hs (.eq (.field (.string "MadeTraffic$Tape" 83) "java/lang/String" "coder" "B") (.int 0)) (by decide +kernel)
  · rcases (by omega : i = 0 ∨ i = 1 ∨ i = 2 ∨ i = 3 ∨ i = 4) with rfl | rfl | rfl | rfl | rfl
    · exact hs (.arrayOf (.field (.string "MadeTraffic$Tape" 71) "java/lang/String" "value" "[B") .byte) (by decide +kernel)
    · exact hs (.arrayOf (.field (.string "MadeTraffic$Tape" 77) "java/lang/String" "value" "[B") .byte) (by decide +kernel)
    · exact hs (.arrayOf (.field (.string "MadeTraffic$Tape" 79) "java/lang/String" "value" "[B") .byte) (by decide +kernel)
    · exact hs (.arrayOf (.field (.string "MadeTraffic$Tape" 81) "java/lang/String" "value" "[B") .byte) (by decide +kernel)
    · exact hs (.arrayOf (.field (.string "MadeTraffic$Tape" 83) "java/lang/String" "value" "[B") .byte) (by decide +kernel)
  · rcases (by omega : i = 0 ∨ i = 1 ∨ i = 2 ∨ i = 3 ∨ i = 4) with rfl | rfl | rfl | rfl | rfl
    · exact hs (.eq (.length (.field (.string "MadeTraffic$Tape" 71) "java/lang/String" "value" "[B")) (.int 3)) (by decide +kernel)
    · exact hs (.eq (.length (.field (.string "MadeTraffic$Tape" 77) "java/lang/String" "value" "[B")) (.int 5)) (by decide +kernel)
    · exact hs (.eq (.length (.field (.string "MadeTraffic$Tape" 79) "java/lang/String" "value" "[B")) (.int 3)) (by decide +kernel)
    · exact hs (.eq (.length (.field (.string "MadeTraffic$Tape" 81) "java/lang/String" "value" "[B")) (.int 5)) (by decide +kernel)
    · exact hs (.eq (.length (.field (.string "MadeTraffic$Tape" 83) "java/lang/String" "value" "[B")) (.int 4)) (by decide +kernel)
  · rcases (by omega : i = 0 ∨ i = 1 ∨ i = 2 ∨ i = 3 ∨ i = 4) with rfl | rfl | rfl | rfl | rfl
    · have hj2 : j < 3 := hj
      rcases (by omega : j = 0 ∨ j = 1 ∨ j = 2) with rfl | rfl | rfl
      · exact hs (.eq (.elem (.field (.string "MadeTraffic$Tape" 71) "java/lang/String" "value" "[B") (.int 0)) (.int 103)) (by decide +kernel)
      · exact hs (.eq (.elem (.field (.string "MadeTraffic$Tape" 71) "java/lang/String" "value" "[B") (.int 1)) (.int 97)) (by decide +kernel)
      · exact hs (.eq (.elem (.field (.string "MadeTraffic$Tape" 71) "java/lang/String" "value" "[B") (.int 2)) (.int 112)) (by decide +kernel)
    · have hj2 : j < 5 := hj
      rcases (by omega : j = 0 ∨ j = 1 ∨ j = 2 ∨ j = 3 ∨ j = 4) with rfl | rfl | rfl | rfl | rfl
      · exact hs (.eq (.elem (.field (.string "MadeTraffic$Tape" 77) "java/lang/String" "value" "[B") (.int 0)) (.int 100)) (by decide +kernel)
      · exact hs (.eq (.elem (.field (.string "MadeTraffic$Tape" 77) "java/lang/String" "value" "[B") (.int 1)) (.int 101)) (by decide +kernel)
      · exact hs (.eq (.elem (.field (.string "MadeTraffic$Tape" 77) "java/lang/String" "value" "[B") (.int 2)) (.int 112)) (by decide +kernel)
      · exact hs (.eq (.elem (.field (.string "MadeTraffic$Tape" 77) "java/lang/String" "value" "[B") (.int 3)) (.int 116)) (by decide +kernel)
      · exact hs (.eq (.elem (.field (.string "MadeTraffic$Tape" 77) "java/lang/String" "value" "[B") (.int 4)) (.int 104)) (by decide +kernel)
    · have hj2 : j < 3 := hj
      rcases (by omega : j = 0 ∨ j = 1 ∨ j = 2) with rfl | rfl | rfl
      · exact hs (.eq (.elem (.field (.string "MadeTraffic$Tape" 79) "java/lang/String" "value" "[B") (.int 0)) (.int 110)) (by decide +kernel)
      · exact hs (.eq (.elem (.field (.string "MadeTraffic$Tape" 79) "java/lang/String" "value" "[B") (.int 1)) (.int 101)) (by decide +kernel)
      · exact hs (.eq (.elem (.field (.string "MadeTraffic$Tape" 79) "java/lang/String" "value" "[B") (.int 2)) (.int 119)) (by decide +kernel)
    · have hj2 : j < 5 := hj
      rcases (by omega : j = 0 ∨ j = 1 ∨ j = 2 ∨ j = 3 ∨ j = 4) with rfl | rfl | rfl | rfl | rfl
      · exact hs (.eq (.elem (.field (.string "MadeTraffic$Tape" 81) "java/lang/String" "value" "[B") (.int 0)) (.int 103)) (by decide +kernel)
      · exact hs (.eq (.elem (.field (.string "MadeTraffic$Tape" 81) "java/lang/String" "value" "[B") (.int 1)) (.int 114)) (by decide +kernel)
      · exact hs (.eq (.elem (.field (.string "MadeTraffic$Tape" 81) "java/lang/String" "value" "[B") (.int 2)) (.int 101)) (by decide +kernel)
      · exact hs (.eq (.elem (.field (.string "MadeTraffic$Tape" 81) "java/lang/String" "value" "[B") (.int 3)) (.int 97)) (by decide +kernel)
      · exact hs (.eq (.elem (.field (.string "MadeTraffic$Tape" 81) "java/lang/String" "value" "[B") (.int 4)) (.int 116)) (by decide +kernel)
    · have hj2 : j < 4 := hj
      rcases (by omega : j = 0 ∨ j = 1 ∨ j = 2 ∨ j = 3) with rfl | rfl | rfl | rfl
      · exact hs (.eq (.elem (.field (.string "MadeTraffic$Tape" 83) "java/lang/String" "value" "[B") (.int 0)) (.int 119)) (by decide +kernel)
      · exact hs (.eq (.elem (.field (.string "MadeTraffic$Tape" 83) "java/lang/String" "value" "[B") (.int 1)) (.int 97)) (by decide +kernel)
      · exact hs (.eq (.elem (.field (.string "MadeTraffic$Tape" 83) "java/lang/String" "value" "[B") (.int 2)) (.int 108)) (by decide +kernel)
      · exact hs (.eq (.elem (.field (.string "MadeTraffic$Tape" 83) "java/lang/String" "value" "[B") (.int 3)) (.int 107)) (by decide +kernel)
  · rcases (by omega : i = 0 ∨ i = 1 ∨ i = 2 ∨ i = 3 ∨ i = 4) with rfl | rfl | rfl | rfl | rfl <;> rcases (by omega : j = 0 ∨ j = 1 ∨ j = 2 ∨ j = 3 ∨ j = 4) with rfl | rfl | rfl | rfl | rfl
    · exact absurd rfl hne
    · exact Or.inl (hs (.not (.eq (.string "MadeTraffic$Tape" 71) (.string "MadeTraffic$Tape" 77))) (by decide +kernel))
    · exact Or.inl (hs (.not (.eq (.string "MadeTraffic$Tape" 71) (.string "MadeTraffic$Tape" 79))) (by decide +kernel))
    · exact Or.inl (hs (.not (.eq (.string "MadeTraffic$Tape" 71) (.string "MadeTraffic$Tape" 81))) (by decide +kernel))
    · exact Or.inl (hs (.not (.eq (.string "MadeTraffic$Tape" 71) (.string "MadeTraffic$Tape" 83))) (by decide +kernel))
    · exact Or.inr (hs (.not (.eq (.string "MadeTraffic$Tape" 71) (.string "MadeTraffic$Tape" 77))) (by decide +kernel))
    · exact absurd rfl hne
    · exact Or.inl (hs (.not (.eq (.string "MadeTraffic$Tape" 77) (.string "MadeTraffic$Tape" 79))) (by decide +kernel))
    · exact Or.inl (hs (.not (.eq (.string "MadeTraffic$Tape" 77) (.string "MadeTraffic$Tape" 81))) (by decide +kernel))
    · exact Or.inl (hs (.not (.eq (.string "MadeTraffic$Tape" 77) (.string "MadeTraffic$Tape" 83))) (by decide +kernel))
    · exact Or.inr (hs (.not (.eq (.string "MadeTraffic$Tape" 71) (.string "MadeTraffic$Tape" 79))) (by decide +kernel))
    · exact Or.inr (hs (.not (.eq (.string "MadeTraffic$Tape" 77) (.string "MadeTraffic$Tape" 79))) (by decide +kernel))
    · exact absurd rfl hne
    · exact Or.inl (hs (.not (.eq (.string "MadeTraffic$Tape" 79) (.string "MadeTraffic$Tape" 81))) (by decide +kernel))
    · exact Or.inl (hs (.not (.eq (.string "MadeTraffic$Tape" 79) (.string "MadeTraffic$Tape" 83))) (by decide +kernel))
    · exact Or.inr (hs (.not (.eq (.string "MadeTraffic$Tape" 71) (.string "MadeTraffic$Tape" 81))) (by decide +kernel))
    · exact Or.inr (hs (.not (.eq (.string "MadeTraffic$Tape" 77) (.string "MadeTraffic$Tape" 81))) (by decide +kernel))
    · exact Or.inr (hs (.not (.eq (.string "MadeTraffic$Tape" 79) (.string "MadeTraffic$Tape" 81))) (by decide +kernel))
    · exact absurd rfl hne
    · exact Or.inl (hs (.not (.eq (.string "MadeTraffic$Tape" 81) (.string "MadeTraffic$Tape" 83))) (by decide +kernel))
    · exact Or.inr (hs (.not (.eq (.string "MadeTraffic$Tape" 71) (.string "MadeTraffic$Tape" 83))) (by decide +kernel))
    · exact Or.inr (hs (.not (.eq (.string "MadeTraffic$Tape" 77) (.string "MadeTraffic$Tape" 83))) (by decide +kernel))
    · exact Or.inr (hs (.not (.eq (.string "MadeTraffic$Tape" 79) (.string "MadeTraffic$Tape" 83))) (by decide +kernel))
    · exact Or.inr (hs (.not (.eq (.string "MadeTraffic$Tape" 81) (.string "MadeTraffic$Tape" 83))) (by decide +kernel))
    · exact absurd rfl hne
theorem known_all {s : State} {args : Array Value} (hts : ∀ w ∈ lw_tbl, w.before args s = true) (hgv : (Jvm.Cond.and given_1 narrow_1).before args s = true) : ∃ (D : va_G) (cA : Nat → ClassId) (sA kA kV : Nat → Nat), KnC D cA s ∧ NestW s ∧ ∀ ad : Nat → Nat, StrR (ad, D.1, D.2, cA, sA, kA, kV) s ∧ StatH (ad, D.1, D.2, cA, sA, kA, kV) (fun q => s.heap.size ≤ q) s s.heap := by
  have hs := flat_of_before _ hgv
  have hA : ∀ a : Nat, a < s.heap.size → ¬ (fun q : Nat => s.heap.size ≤ q) a := fun a h => Nat.not_le.mpr h
  obtain ⟨D, hD⟩ := known_D hts
  obtain ⟨cA, hK⟩ := known_A hts hD
  obtain ⟨t0, z0, y0⟩ := known_s0 hts hs hA
  obtain ⟨t1, z1, y1⟩ := known_s1 hts hs hA
  obtain ⟨t2, z2, y2⟩ := known_s2 hts hs hA
  obtain ⟨t3, z3, y3⟩ := known_s3 hts hs hA
  obtain ⟨kA, kV, k1, k2⟩ := known_k hs hA
  refine ⟨D, cA, fun i => if i = 0 then t0 else if i = 1 then t1 else if i = 2 then t2 else t3, kA, kV, hK, fun q hq => va_Nw.of rfl (hts _ (nestL_in q hq)), fun ad => ⟨fun i hi => ?_, fun i hi => ?_, k1, ?_, ?_⟩⟩
  · have e := k2 i hi
    rcases (by omega : i = 0 ∨ i = 1 ∨ i = 2 ∨ i = 3 ∨ i = 4) with rfl | rfl | rfl | rfl | rfl
    · exact vk_R.of (hts (.stringRef "MadeTraffic$Tape" 71 "gap" ) (lt_in 500 (by decide +kernel))) e
    · exact vk_R.of (hts (.stringRef "MadeTraffic$Tape" 77 "depth" ) (lt_in 553 (by decide +kernel))) e
    · exact vk_R.of (hts (.stringRef "MadeTraffic$Tape" 79 "new" ) (lt_in 554 (by decide +kernel))) e
    · exact vk_R.of (hts (.stringRef "MadeTraffic$Tape" 81 "great" ) (lt_in 555 (by decide +kernel))) e
    · exact vk_R.of (hts (.stringRef "MadeTraffic$Tape" 83 "walk" ) (lt_in 556 (by decide +kernel))) e
  · rcases (by omega : i = 0 ∨ i = 1 ∨ i = 2 ∨ i = 3) with rfl | rfl | rfl | rfl
    · exact ⟨z0, y0⟩
    · exact ⟨z1, y1⟩
    · exact ⟨z2, y2⟩
    · exact ⟨z3, y3⟩
  · exact va_Zof (hts (.laysStatic "java/lang/String" "COMPACT_STRINGS" "Z") (lt_in 514 (by decide +kernel))) (hts (.initialized "java/lang/String") (lt_in 74 (by decide +kernel))) (va_eqi (hs (.eq (.static "java/lang/String" "COMPACT_STRINGS" "Z") (.int 1)) (by decide +kernel))) hA
  · exact va_Zqof (hts (.laysStatic "jdk/internal/util/Preconditions" "SIOOBE_FORMATTER" "Ljava/util/function/BiFunction;") (lt_in 530 (by decide +kernel))) (hts (.initialized "jdk/internal/util/Preconditions") (lt_in 76 (by decide +kernel))) (hs (.isRef (.static "jdk/internal/util/Preconditions" "SIOOBE_FORMATTER" "Ljava/util/function/BiFunction;")) (by decide +kernel)) hA
