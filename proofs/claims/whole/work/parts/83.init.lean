/-! the constructors' walks -/
abbrev aI (cA : Nat → ClassId) (n : Nat) : va_E := .inl (cA 0, n, .inl (fun _ => 0))
abbrev aZ (cA : Nat → ClassId) (n : Nat) : va_E := .inl (cA 1, n, .inl (fun _ => 0))
abbrev aQ (cA : Nat → ClassId) (n : Nat) (f : Nat → Option Nat) : va_E := .inl (cA 2, n, .inr (.inr (.inr (.inr f))))
abbrev aII (cA : Nat → ClassId) (q1 q2 q3 q4 : Nat) : va_E := .inl (cA 3, 4, .inr (.inr (.inr (.inr (fun i => if i = 0 then some q1 else if i = 1 then some q2 else if i = 2 then some q3 else if i = 3 then some q4 else none)))))
theorem q_eqL {D : va_G} {X : XT} {A : Nat → Prop} {ws : va_W} {ce sl pc : Nat} {ls ls' : List (Nat × Value)} {st : List Value} (h : GC D X A ws ce sl pc ls' st) (hw : ls = ls' := by rfl) : GC D X A ws ce sl pc ls st := by
  subst hw; exact h
theorem q_II {D : va_G} {X : XT} {A : Nat → Prop} {ws w2 : va_W} {ce sl pc : Nat} {ls : List (Nat × Value)} {st : List Value} {cA : Nat → ClassId} {q : Nat → Nat} {a : Nat} (h : GC D X A (ws ++ (a, aII cA (q 1) (q 2) (q 3) (q 4)) :: w2) ce sl pc ls st) : GC D X A (ws ++ (a, .inl (cA 3, 4, .inr (.inr (.inr (.inr (fun i => if i < 4 then some (q (i + 1)) else none)))))) :: w2) ce sl pc ls st := by
  have e : (fun i => if i < 4 then some (q (i + 1)) else none) = (fun i => if i = 0 then some (q 1) else if i = 1 then some (q 2) else if i = 2 then some (q 3) else if i = 3 then some (q 4) else none) := by
    funext i
    by_cases h4 : i < 4
    · rcases (by omega : i = 0 ∨ i = 1 ∨ i = 2 ∨ i = 3) with rfl | rfl | rfl | rfl <;> rfl
    · rw [if_neg h4, if_neg (by omega), if_neg (by omega), if_neg (by omega), if_neg (by omega)]
  rw [e]
  exact h
theorem woX3 : Cond.methodLink RX3 3 Lib.objectInit ∈ gT := tw 186 (by decide +kernel) rfl
theorem wpX3_9 : Cond.fieldLink RX3 9 RX3 "x" "J" ∈ gT := tw 187 (by decide +kernel) rfl
theorem wpX3_15 : Cond.fieldLink RX3 15 RX3 "taken" "I" ∈ gT := tw 188 (by decide +kernel) rfl
def pwX3 (cA : Nat → ClassId) (a : Nat) (ad : Nat → Nat) : va_W := [(a, .inr (3, [.long 0, .int 0]))]
theorem c_X3init {D : va_G} {cA : Nat → ClassId} : Ci D cA yX3_init cX3_init 1 1 20 0 0 3 [.long 0, .int 0] (pwX3 cA) := by
  refine Ci.of (by decide) rfl (by decide) (fun X A a hX hE => ?_)
  refine q_aload_n (i := 0) hX dX3_init_0 rfl rfl ?_
  refine q_obj hX woX3 (by decide) (by decide) (Nat.le_of_ble_eq_true rfl) dX3_init_1 ?_
  refine q_aload_n (i := 0) hX dX3_init_4 rfl rfl ?_
  refine q_lconst (v := 0) hX dX3_init_5 (by decide) ?_
  refine q_put (k := 0) (ty0 := tyX3) (ty := .long) (fs' := [.long 0, .int 0]) hX rfl rfl (by decide) i_X3 tyX3_ok nmX3 rfl rfl wpX3_9 (by decide +kernel) rfl rfl (Nat.le_of_ble_eq_true rfl) rfl dX3_init_6 ?_
  refine q_aload_n (i := 0) hX dX3_init_9 rfl rfl ?_
  refine q_iconst hX dX3_init_10 ic0 ?_
  refine q_put (k := 1) (ty0 := tyX3) (ty := .int) (fs' := [.long 0, .int 0]) hX rfl rfl (by decide) i_X3 tyX3_ok nmX3 rfl rfl wpX3_15 (by decide +kernel) rfl rfl (Nat.le_of_ble_eq_true rfl) rfl dX3_init_11 ?_
  exact q_ret (st := []) hX hE (fun _ => 0) [0] rfl (by decide) rfl (Nat.le_of_ble_eq_true rfl) (Nat.le_of_ble_eq_true rfl) dX3_init_14
theorem woX6 : Cond.methodLink RX6 3 Lib.objectInit ∈ gT := tw 93 (by decide +kernel) rfl
theorem wpX6_9 : Cond.fieldLink RX6 9 RX6 "ticks" "[I" ∈ gT := tw 94 (by decide +kernel) rfl
theorem wpX6_15 : Cond.fieldLink RX6 15 RX6 "names" "[I" ∈ gT := tw 97 (by decide +kernel) rfl
theorem wpX6_18 : Cond.fieldLink RX6 18 RX6 "greats" "[I" ∈ gT := tw 99 (by decide +kernel) rfl
theorem wpX6_21 : Cond.fieldLink RX6 21 RX6 "depths" "[I" ∈ gT := tw 102 (by decide +kernel) rfl
theorem wpX6_24 : Cond.fieldLink RX6 24 RX6 "count" "I" ∈ gT := tw 105 (by decide +kernel) rfl
def pwX6 (cA : Nat → ClassId) (a : Nat) (ad : Nat → Nat) : va_W := [(a, .inr (6, [.ref (ad 0), .ref (ad 1), .ref (ad 2), .ref (ad 3), .int 0])), ((ad 0), aI cA 40), ((ad 1), aI cA 40), ((ad 2), aI cA 40), ((ad 3), aI cA 40)]
theorem c_X6init {D : va_G} {cA : Nat → ClassId} : Ci D cA yX6_init cX6_init 1 1 20 4 160 6 [.null, .null, .null, .null, .int 0] (pwX6 cA) := by
  refine Ci.of (by decide) rfl (by decide) (fun X A a hX hE => ?_)
  refine q_aload_n (i := 0) hX dX6_init_0 rfl rfl ?_
  refine q_obj hX woX6 (by decide) (by decide) (Nat.le_of_ble_eq_true rfl) dX6_init_1 ?_
  refine q_aload_n (i := 0) hX dX6_init_4 rfl rfl ?_
  refine q_bipush hX dX6_init_5 bp40 ?_
  refine q_newI (N := 40) hX (by decide) (by decide) (by decide) (Nat.le_of_ble_eq_true rfl) (Nat.le_of_ble_eq_true rfl) dX6_init_7 (fun q0 => ?_)
  refine q_eq (ws' := [(a, .inr (6, [.null, .null, .null, .null, .int 0])), (q0, aI cA 40)]) (ce' := 1) (sl' := 40) ?_
  refine q_putF (k := 0) (ty0 := tyX6) (ty := (.array .int)) (fs' := [.ref q0, .null, .null, .null, .int 0]) hX rfl rfl (by decide) i_X6 tyX6_ok nmX6 rfl rfl rfl wpX6_9 (by decide +kernel) rfl rfl (Nat.le_of_ble_eq_true rfl) rfl dX6_init_9 ?_
  refine q_aload_n (i := 0) hX dX6_init_12 rfl rfl ?_
  refine q_bipush hX dX6_init_13 bp40 ?_
  refine q_newI (N := 40) hX (by decide) (by decide) (by decide) (Nat.le_of_ble_eq_true rfl) (Nat.le_of_ble_eq_true rfl) dX6_init_15 (fun q1 => ?_)
  refine q_eq (ws' := [(a, .inr (6, [.ref q0, .null, .null, .null, .int 0])), (q0, aI cA 40), (q1, aI cA 40)]) (ce' := 2) (sl' := 80) ?_
  refine q_putF (k := 1) (ty0 := tyX6) (ty := (.array .int)) (fs' := [.ref q0, .ref q1, .null, .null, .int 0]) hX rfl rfl (by decide) i_X6 tyX6_ok nmX6 rfl rfl rfl wpX6_15 (by decide +kernel) rfl rfl (Nat.le_of_ble_eq_true rfl) rfl dX6_init_17 ?_
  refine q_aload_n (i := 0) hX dX6_init_20 rfl rfl ?_
  refine q_bipush hX dX6_init_21 bp40 ?_
  refine q_newI (N := 40) hX (by decide) (by decide) (by decide) (Nat.le_of_ble_eq_true rfl) (Nat.le_of_ble_eq_true rfl) dX6_init_23 (fun q2 => ?_)
  refine q_eq (ws' := [(a, .inr (6, [.ref q0, .ref q1, .null, .null, .int 0])), (q0, aI cA 40), (q1, aI cA 40), (q2, aI cA 40)]) (ce' := 3) (sl' := 120) ?_
  refine q_putF (k := 2) (ty0 := tyX6) (ty := (.array .int)) (fs' := [.ref q0, .ref q1, .ref q2, .null, .int 0]) hX rfl rfl (by decide) i_X6 tyX6_ok nmX6 rfl rfl rfl wpX6_18 (by decide +kernel) rfl rfl (Nat.le_of_ble_eq_true rfl) rfl dX6_init_25 ?_
  refine q_aload_n (i := 0) hX dX6_init_28 rfl rfl ?_
  refine q_bipush hX dX6_init_29 bp40 ?_
  refine q_newI (N := 40) hX (by decide) (by decide) (by decide) (Nat.le_of_ble_eq_true rfl) (Nat.le_of_ble_eq_true rfl) dX6_init_31 (fun q3 => ?_)
  refine q_eq (ws' := [(a, .inr (6, [.ref q0, .ref q1, .ref q2, .null, .int 0])), (q0, aI cA 40), (q1, aI cA 40), (q2, aI cA 40), (q3, aI cA 40)]) (ce' := 4) (sl' := 160) ?_
  refine q_putF (k := 3) (ty0 := tyX6) (ty := (.array .int)) (fs' := [.ref q0, .ref q1, .ref q2, .ref q3, .int 0]) hX rfl rfl (by decide) i_X6 tyX6_ok nmX6 rfl rfl rfl wpX6_21 (by decide +kernel) rfl rfl (Nat.le_of_ble_eq_true rfl) rfl dX6_init_33 ?_
  refine q_aload_n (i := 0) hX dX6_init_36 rfl rfl ?_
  refine q_iconst hX dX6_init_37 ic0 ?_
  refine q_put (k := 4) (ty0 := tyX6) (ty := .int) (fs' := [.ref q0, .ref q1, .ref q2, .ref q3, .int 0]) hX rfl rfl (by decide) i_X6 tyX6_ok nmX6 rfl rfl wpX6_24 (by decide +kernel) rfl rfl (Nat.le_of_ble_eq_true rfl) rfl dX6_init_38 ?_
  exact q_ret (st := []) hX hE (fun i => ([q0, q1, q2, q3] : List Nat).getD i 0) [0, 1, 2, 3, 4] rfl (by decide) rfl (Nat.le_of_ble_eq_true rfl) (Nat.le_of_ble_eq_true rfl) dX6_init_41
theorem woX7 : Cond.methodLink RX7 3 Lib.objectInit ∈ gT := tw 279 (by decide +kernel) rfl
theorem wpX7_9 : Cond.fieldLink RX7 9 RX7 "items" "[I" ∈ gT := tw 280 (by decide +kernel) rfl
theorem wpX7_15 : Cond.fieldLink RX7 15 RX7 "isMissing" "Z" ∈ gT := tw 282 (by decide +kernel) rfl
theorem wpX7_19 : Cond.fieldLink RX7 19 RX7 "lane" "I" ∈ gT := tw 284 (by decide +kernel) rfl
theorem wpX7_23 : Cond.fieldLink RX7 23 RX7 "size" "I" ∈ gT := tw 286 (by decide +kernel) rfl
def pwX7 (cA : Nat → ClassId) (a : Nat) (ad : Nat → Nat) : va_W := [(a, .inr (7, [.ref (ad 0), .int 1, .int 0, .int 0])), ((ad 0), aI cA 60)]
theorem c_X7init {D : va_G} {cA : Nat → ClassId} : Ci D cA yX7_init cX7_init 1 1 20 1 60 7 [.null, .int 0, .int 0, .int 0] (pwX7 cA) := by
  refine Ci.of (by decide) rfl (by decide) (fun X A a hX hE => ?_)
  refine q_aload_n (i := 0) hX dX7_init_0 rfl rfl ?_
  refine q_obj hX woX7 (by decide) (by decide) (Nat.le_of_ble_eq_true rfl) dX7_init_1 ?_
  refine q_aload_n (i := 0) hX dX7_init_4 rfl rfl ?_
  refine q_bipush hX dX7_init_5 bp60 ?_
  refine q_newI (N := 60) hX (by decide) (by decide) (by decide) (Nat.le_of_ble_eq_true rfl) (Nat.le_of_ble_eq_true rfl) dX7_init_7 (fun q0 => ?_)
  refine q_eq (ws' := [(a, .inr (7, [.null, .int 0, .int 0, .int 0])), (q0, aI cA 60)]) (ce' := 1) (sl' := 60) ?_
  refine q_putF (k := 0) (ty0 := tyX7) (ty := (.array .int)) (fs' := [.ref q0, .int 0, .int 0, .int 0]) hX rfl rfl (by decide) i_X7 tyX7_ok nmX7 rfl rfl rfl wpX7_9 (by decide +kernel) rfl rfl (Nat.le_of_ble_eq_true rfl) rfl dX7_init_9 ?_
  refine q_aload_n (i := 0) hX dX7_init_12 rfl rfl ?_
  refine q_iconst hX dX7_init_13 ic1 ?_
  refine q_put (k := 1) (ty0 := tyX7) (ty := .boolean) (fs' := [.ref q0, .int 1, .int 0, .int 0]) hX rfl rfl (by decide) i_X7 tyX7_ok nmX7 rfl rfl wpX7_15 (by decide +kernel) (nz_narrow (Or.inr rfl)).1 (nz_narrow (Or.inr rfl)).2 (Nat.le_of_ble_eq_true rfl) rfl dX7_init_14 ?_
  refine q_aload_n (i := 0) hX dX7_init_17 rfl rfl ?_
  refine q_iconst hX dX7_init_18 ic0 ?_
  refine q_put (k := 2) (ty0 := tyX7) (ty := .int) (fs' := [.ref q0, .int 1, .int 0, .int 0]) hX rfl rfl (by decide) i_X7 tyX7_ok nmX7 rfl rfl wpX7_19 (by decide +kernel) rfl rfl (Nat.le_of_ble_eq_true rfl) rfl dX7_init_19 ?_
  refine q_aload_n (i := 0) hX dX7_init_22 rfl rfl ?_
  refine q_iconst hX dX7_init_23 ic0 ?_
  refine q_put (k := 3) (ty0 := tyX7) (ty := .int) (fs' := [.ref q0, .int 1, .int 0, .int 0]) hX rfl rfl (by decide) i_X7 tyX7_ok nmX7 rfl rfl wpX7_23 (by decide +kernel) rfl rfl (Nat.le_of_ble_eq_true rfl) rfl dX7_init_24 ?_
  exact q_ret (st := []) hX hE (fun i => ([q0] : List Nat).getD i 0) [0, 1] rfl (by decide) rfl (Nat.le_of_ble_eq_true rfl) (Nat.le_of_ble_eq_true rfl) dX7_init_27
theorem woX0 : Cond.methodLink RX0 3 Lib.objectInit ∈ gT := tw 253 (by decide +kernel) rfl
theorem wpX0_9 : Cond.fieldLink RX0 9 RX0 "bodies" "[I" ∈ gT := tw 254 (by decide +kernel) rfl
theorem wpX0_15 : Cond.fieldLink RX0 15 RX0 "begun" "I" ∈ gT := tw 256 (by decide +kernel) rfl
theorem wpX0_19 : Cond.fieldLink RX0 19 RX0 "part" "I" ∈ gT := tw 258 (by decide +kernel) rfl
theorem wpX0_22 : Cond.fieldLink RX0 22 RX0 "kind" "I" ∈ gT := tw 259 (by decide +kernel) rfl
theorem wpX0_25 : Cond.fieldLink RX0 25 RX0 "size" "I" ∈ gT := tw 260 (by decide +kernel) rfl
theorem wpX0_28 : Cond.fieldLink RX0 28 RX0 "trueAsks" "I" ∈ gT := tw 261 (by decide +kernel) rfl
def pwX0 (cA : Nat → ClassId) (a : Nat) (ad : Nat → Nat) : va_W := [(a, .inr (0, [.ref (ad 0), .int 0, .int 0, .int 5, .int 0, .int 0])), ((ad 0), aI cA 16)]
theorem c_X0init {D : va_G} {cA : Nat → ClassId} : Ci D cA yX0_init cX0_init 1 1 20 1 16 0 [.null, .int 0, .int 0, .int 0, .int 0, .int 0] (pwX0 cA) := by
  refine Ci.of (by decide) rfl (by decide) (fun X A a hX hE => ?_)
  refine q_aload_n (i := 0) hX dX0_init_0 rfl rfl ?_
  refine q_obj hX woX0 (by decide) (by decide) (Nat.le_of_ble_eq_true rfl) dX0_init_1 ?_
  refine q_aload_n (i := 0) hX dX0_init_4 rfl rfl ?_
  refine q_bipush hX dX0_init_5 bp16 ?_
  refine q_newI (N := 16) hX (by decide) (by decide) (by decide) (Nat.le_of_ble_eq_true rfl) (Nat.le_of_ble_eq_true rfl) dX0_init_7 (fun q0 => ?_)
  refine q_eq (ws' := [(a, .inr (0, [.null, .int 0, .int 0, .int 0, .int 0, .int 0])), (q0, aI cA 16)]) (ce' := 1) (sl' := 16) ?_
  refine q_putF (k := 0) (ty0 := tyX0) (ty := (.array .int)) (fs' := [.ref q0, .int 0, .int 0, .int 0, .int 0, .int 0]) hX rfl rfl (by decide) i_X0 tyX0_ok nmX0 rfl rfl rfl wpX0_9 (by decide +kernel) rfl rfl (Nat.le_of_ble_eq_true rfl) rfl dX0_init_9 ?_
  refine q_aload_n (i := 0) hX dX0_init_12 rfl rfl ?_
  refine q_iconst hX dX0_init_13 ic0 ?_
  refine q_put (k := 1) (ty0 := tyX0) (ty := .int) (fs' := [.ref q0, .int 0, .int 0, .int 0, .int 0, .int 0]) hX rfl rfl (by decide) i_X0 tyX0_ok nmX0 rfl rfl wpX0_15 (by decide +kernel) rfl rfl (Nat.le_of_ble_eq_true rfl) rfl dX0_init_14 ?_
  refine q_aload_n (i := 0) hX dX0_init_17 rfl rfl ?_
  refine q_iconst hX dX0_init_18 ic0 ?_
  refine q_put (k := 2) (ty0 := tyX0) (ty := .int) (fs' := [.ref q0, .int 0, .int 0, .int 0, .int 0, .int 0]) hX rfl rfl (by decide) i_X0 tyX0_ok nmX0 rfl rfl wpX0_19 (by decide +kernel) rfl rfl (Nat.le_of_ble_eq_true rfl) rfl dX0_init_19 ?_
  refine q_aload_n (i := 0) hX dX0_init_22 rfl rfl ?_
  refine q_iconst hX dX0_init_23 ic5 ?_
  refine q_put (k := 3) (ty0 := tyX0) (ty := .int) (fs' := [.ref q0, .int 0, .int 0, .int 5, .int 0, .int 0]) hX rfl rfl (by decide) i_X0 tyX0_ok nmX0 rfl rfl wpX0_22 (by decide +kernel) rfl rfl (Nat.le_of_ble_eq_true rfl) rfl dX0_init_24 ?_
  refine q_aload_n (i := 0) hX dX0_init_27 rfl rfl ?_
  refine q_iconst hX dX0_init_28 ic0 ?_
  refine q_put (k := 4) (ty0 := tyX0) (ty := .int) (fs' := [.ref q0, .int 0, .int 0, .int 5, .int 0, .int 0]) hX rfl rfl (by decide) i_X0 tyX0_ok nmX0 rfl rfl wpX0_25 (by decide +kernel) rfl rfl (Nat.le_of_ble_eq_true rfl) rfl dX0_init_29 ?_
  refine q_aload_n (i := 0) hX dX0_init_32 rfl rfl ?_
  refine q_iconst hX dX0_init_33 ic0 ?_
  refine q_put (k := 5) (ty0 := tyX0) (ty := .int) (fs' := [.ref q0, .int 0, .int 0, .int 5, .int 0, .int 0]) hX rfl rfl (by decide) i_X0 tyX0_ok nmX0 rfl rfl wpX0_28 (by decide +kernel) rfl rfl (Nat.le_of_ble_eq_true rfl) rfl dX0_init_34 ?_
  exact q_ret (st := []) hX hE (fun i => ([q0] : List Nat).getD i 0) [0, 1] rfl (by decide) rfl (Nat.le_of_ble_eq_true rfl) (Nat.le_of_ble_eq_true rfl) dX0_init_37
theorem woX1 : Cond.methodLink RX1 3 Lib.objectInit ∈ gT := tw 207 (by decide +kernel) rfl
theorem wpX1_9 : Cond.fieldLink RX1 9 RX1 "cache" "I" ∈ gT := tw 208 (by decide +kernel) rfl
theorem wpX1_15 : Cond.fieldLink RX1 15 RX1 "hit" "I" ∈ gT := tw 210 (by decide +kernel) rfl
theorem wpX1_18 : Cond.fieldLink RX1 18 RX1 "miss" "I" ∈ gT := tw 212 (by decide +kernel) rfl
theorem wpX1_21 : Cond.fieldLink RX1 21 RX1 "ends" "[I" ∈ gT := tw 214 (by decide +kernel) rfl
def pwX1 (cA : Nat → ClassId) (a : Nat) (ad : Nat → Nat) : va_W := [(a, .inr (1, [.int 2, .int 1, .int 5, .ref (ad 0)])), ((ad 0), aI cA 40)]
theorem c_X1init {D : va_G} {cA : Nat → ClassId} : Ci D cA yX1_init cX1_init 1 1 20 1 40 1 [.int 0, .int 0, .int 0, .null] (pwX1 cA) := by
  refine Ci.of (by decide) rfl (by decide) (fun X A a hX hE => ?_)
  refine q_aload_n (i := 0) hX dX1_init_0 rfl rfl ?_
  refine q_obj hX woX1 (by decide) (by decide) (Nat.le_of_ble_eq_true rfl) dX1_init_1 ?_
  refine q_aload_n (i := 0) hX dX1_init_4 rfl rfl ?_
  refine q_iconst hX dX1_init_5 ic2 ?_
  refine q_put (k := 0) (ty0 := tyX1) (ty := .int) (fs' := [.int 2, .int 0, .int 0, .null]) hX rfl rfl (by decide) i_X1 tyX1_ok nmX1 rfl rfl wpX1_9 (by decide +kernel) rfl rfl (Nat.le_of_ble_eq_true rfl) rfl dX1_init_6 ?_
  refine q_aload_n (i := 0) hX dX1_init_9 rfl rfl ?_
  refine q_iconst hX dX1_init_10 ic1 ?_
  refine q_put (k := 1) (ty0 := tyX1) (ty := .int) (fs' := [.int 2, .int 1, .int 0, .null]) hX rfl rfl (by decide) i_X1 tyX1_ok nmX1 rfl rfl wpX1_15 (by decide +kernel) rfl rfl (Nat.le_of_ble_eq_true rfl) rfl dX1_init_11 ?_
  refine q_aload_n (i := 0) hX dX1_init_14 rfl rfl ?_
  refine q_iconst hX dX1_init_15 ic5 ?_
  refine q_put (k := 2) (ty0 := tyX1) (ty := .int) (fs' := [.int 2, .int 1, .int 5, .null]) hX rfl rfl (by decide) i_X1 tyX1_ok nmX1 rfl rfl wpX1_18 (by decide +kernel) rfl rfl (Nat.le_of_ble_eq_true rfl) rfl dX1_init_16 ?_
  refine q_aload_n (i := 0) hX dX1_init_19 rfl rfl ?_
  refine q_bipush hX dX1_init_20 bp40 ?_
  refine q_newI (N := 40) hX (by decide) (by decide) (by decide) (Nat.le_of_ble_eq_true rfl) (Nat.le_of_ble_eq_true rfl) dX1_init_22 (fun q0 => ?_)
  refine q_eq (ws' := [(a, .inr (1, [.int 2, .int 1, .int 5, .null])), (q0, aI cA 40)]) (ce' := 1) (sl' := 40) ?_
  refine q_putF (k := 3) (ty0 := tyX1) (ty := (.array .int)) (fs' := [.int 2, .int 1, .int 5, .ref q0]) hX rfl rfl (by decide) i_X1 tyX1_ok nmX1 rfl rfl rfl wpX1_21 (by decide +kernel) rfl rfl (Nat.le_of_ble_eq_true rfl) rfl dX1_init_24 ?_
  exact q_ret (st := []) hX hE (fun i => ([q0] : List Nat).getD i 0) [0, 1] rfl (by decide) rfl (Nat.le_of_ble_eq_true rfl) (Nat.le_of_ble_eq_true rfl) dX1_init_27
theorem woX4 : Cond.methodLink RX4 3 Lib.objectInit ∈ gT := tw 180 (by decide +kernel) rfl
theorem wnX4_9 : Cond.classLink RX4 9 RX3 ∈ gT := tw 181 (by decide +kernel) rfl
theorem wiX3 : Cond.instantiable RX3 2 ∈ gT := tw 182 (by decide +kernel) rfl
theorem wjX3 : Cond.instanceMethod yX3_init ∈ gT := tw 184 (by decide +kernel) rfl
theorem cwX3_init : CalW yX3_init cX3_init 1 none 0 := ⟨tw 185 (by decide +kernel) rfl, tw 64 (by decide +kernel) rfl, by decide +kernel⟩
theorem wpX4_12 : Cond.fieldLink RX4 12 RX4 "lots" "LMadeTraffic$Lots;" ∈ gT := tw 195 (by decide +kernel) rfl
theorem wpX4_18 : Cond.fieldLink RX4 18 RX4 "chances" "[I" ∈ gT := tw 196 (by decide +kernel) rfl
def pwX4 (cA : Nat → ClassId) (a : Nat) (ad : Nat → Nat) : va_W := [(a, .inr (4, [.ref (ad 0), .ref (ad 1)])), ((ad 0), .inr (3, [.long 0, .int 0])), ((ad 1), aI cA 11)]
theorem c_X4init {D : va_G} {cA : Nat → ClassId} : Ci D cA yX4_init cX4_init 1 2 40 2 13 4 [.null, .null] (pwX4 cA) := by
  refine Ci.of (by decide) rfl (by decide) (fun X A a hX hE => ?_)
  refine q_aload_n (i := 0) hX dX4_init_0 rfl rfl ?_
  refine q_obj hX woX4 (by decide) (by decide) (Nat.le_of_ble_eq_true rfl) dX4_init_1 ?_
  refine q_aload_n (i := 0) hX dX4_init_4 rfl rfl ?_
  refine q_make (ty0 := tyX3) hX (c_X3init (D := D) (cA := cA)) rfl rfl rfl i_X3 tyX3_ok (by decide) wnX4_9 wiX3 cwX3_init wjX3 (by decide +kernel) (by decide) (Nat.le_of_ble_eq_true rfl) (Nat.le_of_ble_eq_true rfl) (Nat.le_of_ble_eq_true rfl) dX4_init_5 dX4_init_8 dX4_init_9 (fun b0 ad0 => ?_)
  refine q_eq (ws' := [(a, .inr (4, [.null, .null])), (b0, .inr (3, [.long 0, .int 0]))]) (ce' := 1) (sl' := 2) ?_
  refine q_putF (k := 0) (ty0 := tyX4) (ty := (.object RX3)) (fs' := [.ref b0, .null]) hX rfl rfl (by decide) i_X4 tyX4_ok nmX4 rfl rfl rfl wpX4_12 (by decide +kernel) rfl rfl (Nat.le_of_ble_eq_true rfl) rfl dX4_init_12 ?_
  refine q_aload_n (i := 0) hX dX4_init_15 rfl rfl ?_
  refine q_bipush hX dX4_init_16 bp11 ?_
  refine q_newI (N := 11) hX (by decide) (by decide) (by decide) (Nat.le_of_ble_eq_true rfl) (Nat.le_of_ble_eq_true rfl) dX4_init_18 (fun q1 => ?_)
  refine q_eq (ws' := [(a, .inr (4, [.ref b0, .null])), (b0, .inr (3, [.long 0, .int 0])), (q1, aI cA 11)]) (ce' := 2) (sl' := 13) ?_
  refine q_putF (k := 1) (ty0 := tyX4) (ty := (.array .int)) (fs' := [.ref b0, .ref q1]) hX rfl rfl (by decide) i_X4 tyX4_ok nmX4 rfl rfl rfl wpX4_18 (by decide +kernel) rfl rfl (Nat.le_of_ble_eq_true rfl) rfl dX4_init_20 ?_
  exact q_ret (st := []) hX hE (fun i => ([b0, q1] : List Nat).getD i 0) [0, 1, 2] rfl (by decide) rfl (Nat.le_of_ble_eq_true rfl) (Nat.le_of_ble_eq_true rfl) dX4_init_23
theorem woX2 : Cond.methodLink RX2 3 Lib.objectInit ∈ gT := tw 229 (by decide +kernel) rfl
theorem wnX2_9 : Cond.classLink RX2 9 RX6 ∈ gT := tw 230 (by decide +kernel) rfl
theorem wiX6 : Cond.instantiable RX6 5 ∈ gT := tw 89 (by decide +kernel) rfl
theorem wjX6 : Cond.instanceMethod yX6_init ∈ gT := tw 91 (by decide +kernel) rfl
theorem cwX6_init : CalW yX6_init cX6_init 1 none 0 := ⟨tw 92 (by decide +kernel) rfl, tw 60 (by decide +kernel) rfl, by decide +kernel⟩
theorem wpX2_12 : Cond.fieldLink RX2 12 RX2 "half" "LMadeTraffic$Row;" ∈ gT := tw 232 (by decide +kernel) rfl
theorem wpX2_18 : Cond.fieldLink RX2 18 RX2 "ofTrue" "[I" ∈ gT := tw 233 (by decide +kernel) rfl
theorem wpX2_22 : Cond.fieldLink RX2 22 RX2 "ofEven" "[I" ∈ gT := tw 234 (by decide +kernel) rfl
theorem wpX2_25 : Cond.fieldLink RX2 25 RX2 "ofOdd" "[I" ∈ gT := tw 235 (by decide +kernel) rfl
theorem wpX2_28 : Cond.fieldLink RX2 28 RX2 "ofOther" "[I" ∈ gT := tw 236 (by decide +kernel) rfl
def pwX2 (cA : Nat → ClassId) (a : Nat) (ad : Nat → Nat) : va_W := [(a, .inr (2, [.ref (ad 0), .ref (ad 5), .ref (ad 6), .ref (ad 7), .ref (ad 8)])), ((ad 0), .inr (6, [.ref (ad 1), .ref (ad 2), .ref (ad 3), .ref (ad 4), .int 0])), ((ad 1), aI cA 40), ((ad 2), aI cA 40), ((ad 3), aI cA 40), ((ad 4), aI cA 40), ((ad 5), aI cA 6), ((ad 6), aI cA 6), ((ad 7), aI cA 6), ((ad 8), aI cA 6)]
theorem c_X2init {D : va_G} {cA : Nat → ClassId} : Ci D cA yX2_init cX2_init 1 2 40 9 189 2 [.null, .null, .null, .null, .null] (pwX2 cA) := by
  refine Ci.of (by decide) rfl (by decide) (fun X A a hX hE => ?_)
  refine q_aload_n (i := 0) hX dX2_init_0 rfl rfl ?_
  refine q_obj hX woX2 (by decide) (by decide) (Nat.le_of_ble_eq_true rfl) dX2_init_1 ?_
  refine q_aload_n (i := 0) hX dX2_init_4 rfl rfl ?_
  refine q_make (ty0 := tyX6) hX (c_X6init (D := D) (cA := cA)) rfl rfl rfl i_X6 tyX6_ok (by decide) wnX2_9 wiX6 cwX6_init wjX6 (by decide +kernel) (by decide) (Nat.le_of_ble_eq_true rfl) (Nat.le_of_ble_eq_true rfl) (Nat.le_of_ble_eq_true rfl) dX2_init_5 dX2_init_8 dX2_init_9 (fun b0 ad0 => ?_)
  refine q_eq (ws' := [(a, .inr (2, [.null, .null, .null, .null, .null])), (b0, .inr (6, [.ref (ad0 0), .ref (ad0 1), .ref (ad0 2), .ref (ad0 3), .int 0])), ((ad0 0), aI cA 40), ((ad0 1), aI cA 40), ((ad0 2), aI cA 40), ((ad0 3), aI cA 40)]) (ce' := 5) (sl' := 165) ?_
  refine q_putF (k := 0) (ty0 := tyX2) (ty := (.object RX6)) (fs' := [.ref b0, .null, .null, .null, .null]) hX rfl rfl (by decide) i_X2 tyX2_ok nmX2 rfl rfl rfl wpX2_12 (by decide +kernel) rfl rfl (Nat.le_of_ble_eq_true rfl) rfl dX2_init_12 ?_
  refine q_aload_n (i := 0) hX dX2_init_15 rfl rfl ?_
  refine q_bipush hX dX2_init_16 bp6 ?_
  refine q_newI (N := 6) hX (by decide) (by decide) (by decide) (Nat.le_of_ble_eq_true rfl) (Nat.le_of_ble_eq_true rfl) dX2_init_18 (fun q1 => ?_)
  refine q_eq (ws' := [(a, .inr (2, [.ref b0, .null, .null, .null, .null])), (b0, .inr (6, [.ref (ad0 0), .ref (ad0 1), .ref (ad0 2), .ref (ad0 3), .int 0])), ((ad0 0), aI cA 40), ((ad0 1), aI cA 40), ((ad0 2), aI cA 40), ((ad0 3), aI cA 40), (q1, aI cA 6)]) (ce' := 6) (sl' := 171) ?_
  refine q_putF (k := 1) (ty0 := tyX2) (ty := (.array .int)) (fs' := [.ref b0, .ref q1, .null, .null, .null]) hX rfl rfl (by decide) i_X2 tyX2_ok nmX2 rfl rfl rfl wpX2_18 (by decide +kernel) rfl rfl (Nat.le_of_ble_eq_true rfl) rfl dX2_init_20 ?_
  refine q_aload_n (i := 0) hX dX2_init_23 rfl rfl ?_
  refine q_bipush hX dX2_init_24 bp6 ?_
  refine q_newI (N := 6) hX (by decide) (by decide) (by decide) (Nat.le_of_ble_eq_true rfl) (Nat.le_of_ble_eq_true rfl) dX2_init_26 (fun q2 => ?_)
  refine q_eq (ws' := [(a, .inr (2, [.ref b0, .ref q1, .null, .null, .null])), (b0, .inr (6, [.ref (ad0 0), .ref (ad0 1), .ref (ad0 2), .ref (ad0 3), .int 0])), ((ad0 0), aI cA 40), ((ad0 1), aI cA 40), ((ad0 2), aI cA 40), ((ad0 3), aI cA 40), (q1, aI cA 6), (q2, aI cA 6)]) (ce' := 7) (sl' := 177) ?_
  refine q_putF (k := 2) (ty0 := tyX2) (ty := (.array .int)) (fs' := [.ref b0, .ref q1, .ref q2, .null, .null]) hX rfl rfl (by decide) i_X2 tyX2_ok nmX2 rfl rfl rfl wpX2_22 (by decide +kernel) rfl rfl (Nat.le_of_ble_eq_true rfl) rfl dX2_init_28 ?_
  refine q_aload_n (i := 0) hX dX2_init_31 rfl rfl ?_
  refine q_bipush hX dX2_init_32 bp6 ?_
  refine q_newI (N := 6) hX (by decide) (by decide) (by decide) (Nat.le_of_ble_eq_true rfl) (Nat.le_of_ble_eq_true rfl) dX2_init_34 (fun q3 => ?_)
  refine q_eq (ws' := [(a, .inr (2, [.ref b0, .ref q1, .ref q2, .null, .null])), (b0, .inr (6, [.ref (ad0 0), .ref (ad0 1), .ref (ad0 2), .ref (ad0 3), .int 0])), ((ad0 0), aI cA 40), ((ad0 1), aI cA 40), ((ad0 2), aI cA 40), ((ad0 3), aI cA 40), (q1, aI cA 6), (q2, aI cA 6), (q3, aI cA 6)]) (ce' := 8) (sl' := 183) ?_
  refine q_putF (k := 3) (ty0 := tyX2) (ty := (.array .int)) (fs' := [.ref b0, .ref q1, .ref q2, .ref q3, .null]) hX rfl rfl (by decide) i_X2 tyX2_ok nmX2 rfl rfl rfl wpX2_25 (by decide +kernel) rfl rfl (Nat.le_of_ble_eq_true rfl) rfl dX2_init_36 ?_
  refine q_aload_n (i := 0) hX dX2_init_39 rfl rfl ?_
  refine q_bipush hX dX2_init_40 bp6 ?_
  refine q_newI (N := 6) hX (by decide) (by decide) (by decide) (Nat.le_of_ble_eq_true rfl) (Nat.le_of_ble_eq_true rfl) dX2_init_42 (fun q4 => ?_)
  refine q_eq (ws' := [(a, .inr (2, [.ref b0, .ref q1, .ref q2, .ref q3, .null])), (b0, .inr (6, [.ref (ad0 0), .ref (ad0 1), .ref (ad0 2), .ref (ad0 3), .int 0])), ((ad0 0), aI cA 40), ((ad0 1), aI cA 40), ((ad0 2), aI cA 40), ((ad0 3), aI cA 40), (q1, aI cA 6), (q2, aI cA 6), (q3, aI cA 6), (q4, aI cA 6)]) (ce' := 9) (sl' := 189) ?_
  refine q_putF (k := 4) (ty0 := tyX2) (ty := (.array .int)) (fs' := [.ref b0, .ref q1, .ref q2, .ref q3, .ref q4]) hX rfl rfl (by decide) i_X2 tyX2_ok nmX2 rfl rfl rfl wpX2_28 (by decide +kernel) rfl rfl (Nat.le_of_ble_eq_true rfl) rfl dX2_init_44 ?_
  exact q_ret (st := []) hX hE (fun i => ([b0, (ad0 0), (ad0 1), (ad0 2), (ad0 3), q1, q2, q3, q4] : List Nat).getD i 0) [0, 1, 2, 3, 4, 5, 6, 7, 8, 9] rfl (by decide) rfl (Nat.le_of_ble_eq_true rfl) (Nat.le_of_ble_eq_true rfl) dX2_init_47
theorem woX5 : Cond.methodLink RX5 3 Lib.objectInit ∈ gT := tw 159 (by decide +kernel) rfl
theorem wmX5_9 : Cond.classLink RX5 9 "[[I" ∈ gT := tw 160 (by decide +kernel) rfl
theorem wpX5_11 : Cond.fieldLink RX5 11 RX5 "weights" "[[I" ∈ gT := tw 161 (by decide +kernel) rfl
theorem wpX5_16 : Cond.fieldLink RX5 16 RX5 "isLeftOut" "[Z" ∈ gT := tw 164 (by decide +kernel) rfl
theorem wpX5_20 : Cond.fieldLink RX5 20 RX5 "noWeights" "[I" ∈ gT := tw 166 (by decide +kernel) rfl
def pwX5 (cA : Nat → ClassId) (a : Nat) (ad : Nat → Nat) : va_W := [(a, .inr (5, [.ref (ad 0), .ref (ad 5), .ref (ad 6)])), ((ad 0), aII cA (ad 1) (ad 2) (ad 3) (ad 4)), ((ad 1), aI cA 11), ((ad 2), aI cA 11), ((ad 3), aI cA 11), ((ad 4), aI cA 11), ((ad 5), aZ cA 4), ((ad 6), aI cA 11)]
theorem c_X5init {D : va_G} {cA : Nat → ClassId} : Ci D cA yX5_init cX5_init 1 1 20 7 63 5 [.null, .null, .null] (pwX5 cA) := by
  refine Ci.of (by decide) rfl (by decide) (fun X A a hX hE => ?_)
  refine q_aload_n (i := 0) hX dX5_init_0 rfl rfl ?_
  refine q_obj hX woX5 (by decide) (by decide) (Nat.le_of_ble_eq_true rfl) dX5_init_1 ?_
  refine q_aload_n (i := 0) hX dX5_init_4 rfl rfl ?_
  refine q_iconst hX dX5_init_5 ic4 ?_
  refine q_bipush hX dX5_init_6 bp11 ?_
  refine q_multi hX wmX5_9 (Nat.le_of_ble_eq_true rfl) (Nat.le_of_ble_eq_true rfl) dX5_init_8 (fun q0 => ?_)
  refine q_II ?_
  refine q_eq (ws' := [(a, .inr (5, [.null, .null, .null])), (q0 0, aII cA (q0 1) (q0 2) (q0 3) (q0 4)), (q0 1, aI cA 11), (q0 2, aI cA 11), (q0 3, aI cA 11), (q0 4, aI cA 11)]) (ce' := 5) (sl' := 48) ?_
  refine q_putF (k := 0) (ty0 := tyX5) (ty := (.array (.array .int))) (fs' := [.ref (q0 0), .null, .null]) hX rfl rfl (by decide) i_X5 tyX5_ok nmX5 rfl rfl rfl wpX5_11 (by decide +kernel) rfl rfl (Nat.le_of_ble_eq_true rfl) rfl dX5_init_12 ?_
  refine q_aload_n (i := 0) hX dX5_init_15 rfl rfl ?_
  refine q_iconst hX dX5_init_16 ic4 ?_
  refine q_newZ (N := 4) hX (by decide) (by decide) (by decide) (Nat.le_of_ble_eq_true rfl) (Nat.le_of_ble_eq_true rfl) dX5_init_17 (fun q1 => ?_)
  refine q_eq (ws' := [(a, .inr (5, [.ref (q0 0), .null, .null])), (q0 0, aII cA (q0 1) (q0 2) (q0 3) (q0 4)), (q0 1, aI cA 11), (q0 2, aI cA 11), (q0 3, aI cA 11), (q0 4, aI cA 11), (q1, aZ cA 4)]) (ce' := 6) (sl' := 52) ?_
  refine q_putF (k := 1) (ty0 := tyX5) (ty := (.array .boolean)) (fs' := [.ref (q0 0), .ref q1, .null]) hX rfl rfl (by decide) i_X5 tyX5_ok nmX5 rfl rfl rfl wpX5_16 (by decide +kernel) rfl rfl (Nat.le_of_ble_eq_true rfl) rfl dX5_init_19 ?_
  refine q_aload_n (i := 0) hX dX5_init_22 rfl rfl ?_
  refine q_bipush hX dX5_init_23 bp11 ?_
  refine q_newI (N := 11) hX (by decide) (by decide) (by decide) (Nat.le_of_ble_eq_true rfl) (Nat.le_of_ble_eq_true rfl) dX5_init_25 (fun q2 => ?_)
  refine q_eq (ws' := [(a, .inr (5, [.ref (q0 0), .ref q1, .null])), (q0 0, aII cA (q0 1) (q0 2) (q0 3) (q0 4)), (q0 1, aI cA 11), (q0 2, aI cA 11), (q0 3, aI cA 11), (q0 4, aI cA 11), (q1, aZ cA 4), (q2, aI cA 11)]) (ce' := 7) (sl' := 63) ?_
  refine q_putF (k := 2) (ty0 := tyX5) (ty := (.array .int)) (fs' := [.ref (q0 0), .ref q1, .ref q2]) hX rfl rfl (by decide) i_X5 tyX5_ok nmX5 rfl rfl rfl wpX5_20 (by decide +kernel) rfl rfl (Nat.le_of_ble_eq_true rfl) rfl dX5_init_27 ?_
  exact q_ret (st := []) hX hE (fun i => ([q0 0, q0 1, q0 2, q0 3, q0 4, q1, q2] : List Nat).getD i 0) [0, 1, 2, 3, 4, 5, 6, 7] rfl (by decide) rfl (Nat.le_of_ble_eq_true rfl) (Nat.le_of_ble_eq_true rfl) dX5_init_30
theorem woX8 : Cond.methodLink RX8 3 Lib.objectInit ∈ gT := tw 126 (by decide +kernel) rfl
theorem wpX8_9 : Cond.fieldLink RX8 9 RX8 "bytes" "[I" ∈ gT := tw 129 (by decide +kernel) rfl
theorem wmX8_15 : Cond.classLink RX8 15 "[[I" ∈ gT := tw 127 (by decide +kernel) rfl
theorem wpX8_17 : Cond.fieldLink RX8 17 RX8 "read" "[[I" ∈ gT := tw 130 (by decide +kernel) rfl
theorem wpX8_20 : Cond.fieldLink RX8 20 RX8 "count" "I" ∈ gT := tw 132 (by decide +kernel) rfl
theorem wpX8_24 : Cond.fieldLink RX8 24 RX8 "begin" "I" ∈ gT := tw 134 (by decide +kernel) rfl
theorem wpX8_27 : Cond.fieldLink RX8 27 RX8 "behind" "I" ∈ gT := tw 136 (by decide +kernel) rfl
theorem wpX8_30 : Cond.fieldLink RX8 30 RX8 "token" "I" ∈ gT := tw 137 (by decide +kernel) rfl
theorem wpX8_33 : Cond.fieldLink RX8 33 RX8 "value" "I" ∈ gT := tw 138 (by decide +kernel) rfl
def pwX8 (cA : Nat → ClassId) (a : Nat) (ad : Nat → Nat) : va_W := [(a, .inr (8, [.ref (ad 0), .ref (ad 1), .int 0, .int 0, .int 0, .int 0, .int 0])), ((ad 0), aI cA 400), ((ad 1), aII cA (ad 2) (ad 3) (ad 4) (ad 5)), ((ad 2), aI cA 11), ((ad 3), aI cA 11), ((ad 4), aI cA 11), ((ad 5), aI cA 11)]
theorem c_X8init {D : va_G} {cA : Nat → ClassId} : Ci D cA yX8_init cX8_init 1 1 20 6 448 8 [.null, .null, .int 0, .int 0, .int 0, .int 0, .int 0] (pwX8 cA) := by
  refine Ci.of (by decide) rfl (by decide) (fun X A a hX hE => ?_)
  refine q_aload_n (i := 0) hX dX8_init_0 rfl rfl ?_
  refine q_obj hX woX8 (by decide) (by decide) (Nat.le_of_ble_eq_true rfl) dX8_init_1 ?_
  refine q_aload_n (i := 0) hX dX8_init_4 rfl rfl ?_
  refine q_sipush hX dX8_init_5 sp400 ?_
  refine q_newI (N := 400) hX (by decide) (by decide) (by decide) (Nat.le_of_ble_eq_true rfl) (Nat.le_of_ble_eq_true rfl) dX8_init_8 (fun q0 => ?_)
  refine q_eq (ws' := [(a, .inr (8, [.null, .null, .int 0, .int 0, .int 0, .int 0, .int 0])), (q0, aI cA 400)]) (ce' := 1) (sl' := 400) ?_
  refine q_putF (k := 0) (ty0 := tyX8) (ty := (.array .int)) (fs' := [.ref q0, .null, .int 0, .int 0, .int 0, .int 0, .int 0]) hX rfl rfl (by decide) i_X8 tyX8_ok nmX8 rfl rfl rfl wpX8_9 (by decide +kernel) rfl rfl (Nat.le_of_ble_eq_true rfl) rfl dX8_init_10 ?_
  refine q_aload_n (i := 0) hX dX8_init_13 rfl rfl ?_
  refine q_iconst hX dX8_init_14 ic4 ?_
  refine q_bipush hX dX8_init_15 bp11 ?_
  refine q_multi hX wmX8_15 (Nat.le_of_ble_eq_true rfl) (Nat.le_of_ble_eq_true rfl) dX8_init_17 (fun q1 => ?_)
  refine q_II ?_
  refine q_eq (ws' := [(a, .inr (8, [.ref q0, .null, .int 0, .int 0, .int 0, .int 0, .int 0])), (q0, aI cA 400), (q1 0, aII cA (q1 1) (q1 2) (q1 3) (q1 4)), (q1 1, aI cA 11), (q1 2, aI cA 11), (q1 3, aI cA 11), (q1 4, aI cA 11)]) (ce' := 6) (sl' := 448) ?_
  refine q_putF (k := 1) (ty0 := tyX8) (ty := (.array (.array .int))) (fs' := [.ref q0, .ref (q1 0), .int 0, .int 0, .int 0, .int 0, .int 0]) hX rfl rfl (by decide) i_X8 tyX8_ok nmX8 rfl rfl rfl wpX8_17 (by decide +kernel) rfl rfl (Nat.le_of_ble_eq_true rfl) rfl dX8_init_21 ?_
  refine q_aload_n (i := 0) hX dX8_init_24 rfl rfl ?_
  refine q_iconst hX dX8_init_25 ic0 ?_
  refine q_put (k := 2) (ty0 := tyX8) (ty := .int) (fs' := [.ref q0, .ref (q1 0), .int 0, .int 0, .int 0, .int 0, .int 0]) hX rfl rfl (by decide) i_X8 tyX8_ok nmX8 rfl rfl wpX8_20 (by decide +kernel) rfl rfl (Nat.le_of_ble_eq_true rfl) rfl dX8_init_26 ?_
  refine q_aload_n (i := 0) hX dX8_init_29 rfl rfl ?_
  refine q_iconst hX dX8_init_30 ic0 ?_
  refine q_put (k := 3) (ty0 := tyX8) (ty := .int) (fs' := [.ref q0, .ref (q1 0), .int 0, .int 0, .int 0, .int 0, .int 0]) hX rfl rfl (by decide) i_X8 tyX8_ok nmX8 rfl rfl wpX8_24 (by decide +kernel) rfl rfl (Nat.le_of_ble_eq_true rfl) rfl dX8_init_31 ?_
  refine q_aload_n (i := 0) hX dX8_init_34 rfl rfl ?_
  refine q_iconst hX dX8_init_35 ic0 ?_
  refine q_put (k := 4) (ty0 := tyX8) (ty := .int) (fs' := [.ref q0, .ref (q1 0), .int 0, .int 0, .int 0, .int 0, .int 0]) hX rfl rfl (by decide) i_X8 tyX8_ok nmX8 rfl rfl wpX8_27 (by decide +kernel) rfl rfl (Nat.le_of_ble_eq_true rfl) rfl dX8_init_36 ?_
  refine q_aload_n (i := 0) hX dX8_init_39 rfl rfl ?_
  refine q_iconst hX dX8_init_40 ic0 ?_
  refine q_put (k := 5) (ty0 := tyX8) (ty := .int) (fs' := [.ref q0, .ref (q1 0), .int 0, .int 0, .int 0, .int 0, .int 0]) hX rfl rfl (by decide) i_X8 tyX8_ok nmX8 rfl rfl wpX8_30 (by decide +kernel) rfl rfl (Nat.le_of_ble_eq_true rfl) rfl dX8_init_41 ?_
  refine q_aload_n (i := 0) hX dX8_init_44 rfl rfl ?_
  refine q_iconst hX dX8_init_45 ic0 ?_
  refine q_put (k := 6) (ty0 := tyX8) (ty := .int) (fs' := [.ref q0, .ref (q1 0), .int 0, .int 0, .int 0, .int 0, .int 0]) hX rfl rfl (by decide) i_X8 tyX8_ok nmX8 rfl rfl wpX8_33 (by decide +kernel) rfl rfl (Nat.le_of_ble_eq_true rfl) rfl dX8_init_46 ?_
  exact q_ret (st := []) hX hE (fun i => ([q0, q1 0, q1 1, q1 2, q1 3, q1 4] : List Nat).getD i 0) [0, 1, 2, 3, 4, 5, 6] rfl (by decide) rfl (Nat.le_of_ble_eq_true rfl) (Nat.le_of_ble_eq_true rfl) dX8_init_49
