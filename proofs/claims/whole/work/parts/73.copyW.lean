/-! the class's copyWeights, howManyTold -/
theorem cpy11 (f g : Nat → Int32) {i : Nat} (hi : i < 11) : va_cpy f g (0 : Int32).toNatClampNeg (0 : Int32).toNatClampNeg (11 : Int32).toNatClampNeg i = f i := by
  rw [show (0 : Int32).toNatClampNeg = 0 by decide, show (11 : Int32).toNatClampNeg = 11 by decide]
  unfold va_cpy
  simp [hi]
theorem c_copyWR {Γ : GG} {S : St} : kX9_copyWeights Γ [.ref (Γ.1 54), .ref (Γ.1 52)] S (eV (fun S1 => (∀ p, p < 4 → ∀ i, i < 11 → S1.1 (40 + p) i = S.1 (36 + p) i) ∧ Fq [40, 41, 42, 43] [] S S1)) := by
  refine oX9_copyWeights (fun X hX hE => ?_)
  have loop : ∀ d q T, q + d = 4 → (∀ p, p < q → ∀ i, i < 11 → T.1 (40 + p) i = S.1 (36 + p) i) → Fq [40, 41, 42, 43] [] S T → G Γ X T 2 [(0, .ref (Γ.1 54)), (1, .ref (Γ.1 52)), (2, .int (nI q))] [] := by
    intro d
    induction d with
    | zero =>
      intro q T hq h hF
      obtain rfl : q = 4 := by omega
      refine g_iload_n (i := 2) hX dX9_copyWeights_2 rfl rfl ?_
      refine g_iconst hX dX9_copyWeights_3 ic4 ?_
      refine g_icmp_ge (tgt := 26) hX dX9_copyWeights_4 (by decide) (fun _ => ?_) (fun h9 => absurd ((by decide)) h9)
      refine g_vret (st := []) hX hE rfl dX9_copyWeights_26 (⟨rfl, h, hF⟩)
    | succ d ih =>
      intro q T hq h hF
      have hq4 : q < 4 := by omega
      have h1 := iaW q hq4
      have h2 := iaR q hq4
      have e36 : T.1 (36 + q) = S.1 (36 + q) := hF.row (by simp only [List.mem_cons, List.not_mem_nil, or_false]; omega) (fun _ z => by cases z)
      refine g_iload_n (i := 2) hX dX9_copyWeights_2 rfl rfl ?_
      refine g_iconst hX dX9_copyWeights_3 ic4 ?_
      refine g_icmp_ge (tgt := 26) hX dX9_copyWeights_4 (by decide) (fun h9 => absurd h9 (nI_ge hq4 (by decide))) (fun _ => ?_)
      refine g_aload_n (i := 0) hX dX9_copyWeights_7 rfl rfl ?_
      refine g_iload_n (i := 2) hX dX9_copyWeights_8 rfl rfl ?_
      refine g_aaloadN hX (show 54 < NC by decide) (Or.inr rfl) (show lay 54 = (3, 4, [36, 37, 38, 39]) by decide) rfl (hq4) (by decide) (waa q hq4) dX9_copyWeights_9 ?_
      refine g_iconst hX dX9_copyWeights_10 ic0 ?_
      refine g_aload_n (i := 1) hX dX9_copyWeights_11 rfl rfl ?_
      refine g_iload_n (i := 2) hX dX9_copyWeights_12 rfl rfl ?_
      refine g_aaloadN hX (show 52 < NC by decide) (Or.inr rfl) (show lay 52 = (3, 4, [40, 41, 42, 43]) by decide) rfl (hq4) (by decide) (taa q hq4) dX9_copyWeights_13 ?_
      refine g_iconst hX dX9_copyWeights_14 ic0 ?_
      refine g_bipush hX dX9_copyWeights_15 bp11 ?_
      refine g_copy hX wlX9_128 cpnat cpsta cpini (h1).1 (h2).1 (h1).2 (h2).2 (by decide) (by decide) (by decide) (by decide) (by decide) (Nat.le_of_ble_eq_true rfl) (Nat.le_of_ble_eq_true rfl) dX9_copyWeights_17 ?_
      refine g_iinc hX dX9_copyWeights_20 rfl ic1 (by decide) rfl ?_
      refine g_goto (tgt := 2) hX dX9_copyWeights_23 (by decide) ?_
      rw [nI_1]
      refine ih (q + 1) _ (by omega) (fun p hp i hi => ?_) (hF.R (by simp only [List.mem_cons, List.not_mem_nil, or_false]; omega))
      by_cases e : p = q
      · subst e; rw [pR_self, cpy11 _ _ hi, e36]
      · rw [pR_ne _ _ (by omega)]; exact h p (by omega) i hi
  refine g_iconst hX dX9_copyWeights_0 ic0 ?_
  refine g_istore_n (i := 2) hX dX9_copyWeights_1 rfl (by decide) rfl ?_
  exact loop 4 0 S (by omega) (fun p hp => absurd hp (by omega)) Fq.rf
theorem c_copyRW {Γ : GG} {S : St} : kX9_copyWeights Γ [.ref (Γ.1 52), .ref (Γ.1 54)] S (eV (fun S1 => (∀ p, p < 4 → ∀ i, i < 11 → S1.1 (36 + p) i = S.1 (40 + p) i) ∧ Fq [36, 37, 38, 39] [] S S1)) := by
  refine oX9_copyWeights (fun X hX hE => ?_)
  have loop : ∀ d q T, q + d = 4 → (∀ p, p < q → ∀ i, i < 11 → T.1 (36 + p) i = S.1 (40 + p) i) → Fq [36, 37, 38, 39] [] S T → G Γ X T 2 [(0, .ref (Γ.1 52)), (1, .ref (Γ.1 54)), (2, .int (nI q))] [] := by
    intro d
    induction d with
    | zero =>
      intro q T hq h hF
      obtain rfl : q = 4 := by omega
      refine g_iload_n (i := 2) hX dX9_copyWeights_2 rfl rfl ?_
      refine g_iconst hX dX9_copyWeights_3 ic4 ?_
      refine g_icmp_ge (tgt := 26) hX dX9_copyWeights_4 (by decide) (fun _ => ?_) (fun h9 => absurd ((by decide)) h9)
      refine g_vret (st := []) hX hE rfl dX9_copyWeights_26 (⟨rfl, h, hF⟩)
    | succ d ih =>
      intro q T hq h hF
      have hq4 : q < 4 := by omega
      have h1 := iaW q hq4
      have h2 := iaR q hq4
      have e40 : T.1 (40 + q) = S.1 (40 + q) := hF.row (by simp only [List.mem_cons, List.not_mem_nil, or_false]; omega) (fun _ z => by cases z)
      refine g_iload_n (i := 2) hX dX9_copyWeights_2 rfl rfl ?_
      refine g_iconst hX dX9_copyWeights_3 ic4 ?_
      refine g_icmp_ge (tgt := 26) hX dX9_copyWeights_4 (by decide) (fun h9 => absurd h9 (nI_ge hq4 (by decide))) (fun _ => ?_)
      refine g_aload_n (i := 0) hX dX9_copyWeights_7 rfl rfl ?_
      refine g_iload_n (i := 2) hX dX9_copyWeights_8 rfl rfl ?_
      refine g_aaloadN hX (show 52 < NC by decide) (Or.inr rfl) (show lay 52 = (3, 4, [40, 41, 42, 43]) by decide) rfl (hq4) (by decide) (taa q hq4) dX9_copyWeights_9 ?_
      refine g_iconst hX dX9_copyWeights_10 ic0 ?_
      refine g_aload_n (i := 1) hX dX9_copyWeights_11 rfl rfl ?_
      refine g_iload_n (i := 2) hX dX9_copyWeights_12 rfl rfl ?_
      refine g_aaloadN hX (show 54 < NC by decide) (Or.inr rfl) (show lay 54 = (3, 4, [36, 37, 38, 39]) by decide) rfl (hq4) (by decide) (waa q hq4) dX9_copyWeights_13 ?_
      refine g_iconst hX dX9_copyWeights_14 ic0 ?_
      refine g_bipush hX dX9_copyWeights_15 bp11 ?_
      refine g_copy hX wlX9_128 cpnat cpsta cpini (h2).1 (h1).1 (h2).2 (h1).2 (by decide) (by decide) (by decide) (by decide) (by decide) (Nat.le_of_ble_eq_true rfl) (Nat.le_of_ble_eq_true rfl) dX9_copyWeights_17 ?_
      refine g_iinc hX dX9_copyWeights_20 rfl ic1 (by decide) rfl ?_
      refine g_goto (tgt := 2) hX dX9_copyWeights_23 (by decide) ?_
      rw [nI_1]
      refine ih (q + 1) _ (by omega) (fun p hp i hi => ?_) (hF.R (by simp only [List.mem_cons, List.not_mem_nil, or_false]; omega))
      by_cases e : p = q
      · subst e; rw [pR_self, cpy11 _ _ hi, e40]
      · rw [pR_ne _ _ (by omega)]; exact h p (by omega) i hi
  refine g_iconst hX dX9_copyWeights_0 ic0 ?_
  refine g_istore_n (i := 2) hX dX9_copyWeights_1 rfl (by decide) rfl ?_
  exact loop 4 0 S (by omega) (fun p hp => absurd hp (by omega)) Fq.rf
theorem c_howManyTold {Γ : GG} {S : St} : kX5_howManyTold Γ [.ref (Γ.1 53)] S (rI (nI (nzN (S.1 36) 11 + nzN (S.1 37) 11 + nzN (S.1 38) 11 + nzN (S.1 39) 11)) S) := by
  refine oX5_howManyTold (fun X hX hE => ?_)
  have go : ∀ q a, q < 4 → G Γ X S 4 [(0, .ref (Γ.1 53)), (1, .int (nI (a + nzN (S.1 (36 + q)) 11))), (2, .int (nI (q + 1)))] [] → G Γ X S 4 [(0, .ref (Γ.1 53)), (1, .int (nI a)), (2, .int (nI q))] [] := by
    intro q a hq next
    have h1 := iaW q hq
    refine g_iload_n (i := 2) hX dX5_howManyTold_4 rfl rfl ?_
    refine g_iconst hX dX5_howManyTold_5 ic4 ?_
    refine g_icmp_ge (tgt := 27) hX dX5_howManyTold_6 (by decide) (fun h9 => absurd h9 (nI_ge hq (by decide))) (fun _ => ?_)
    refine g_iload_n (i := 1) hX dX5_howManyTold_9 rfl rfl ?_
    refine g_aload_n (i := 0) hX dX5_howManyTold_10 rfl rfl ?_
    refine fX5_11 hX dX5_howManyTold_11 ?_
    refine g_iload_n (i := 2) hX dX5_howManyTold_14 rfl rfl ?_
    refine g_aaloadN hX (show 54 < NC by decide) (Or.inr rfl) (show lay 54 = (3, 4, [36, 37, 38, 39]) by decide) rfl (hq) (by decide) (waa q hq) dX5_howManyTold_15 ?_
    refine sX5_24 hX ⟨Nat.le_of_ble_eq_true rfl, Nat.le_of_ble_eq_true rfl⟩ (Nat.le_of_ble_eq_true rfl) dX5_howManyTold_16 (c_nz h1 (by decide)) ?_
    refine g_iadd hX dX5_howManyTold_19 ?_
    refine g_istore_n (i := 1) hX dX5_howManyTold_20 rfl (by decide) rfl ?_
    refine g_iinc hX dX5_howManyTold_21 rfl ic1 (by decide) rfl ?_
    refine g_goto (tgt := 4) hX dX5_howManyTold_24 (by decide) ?_
    rw [nI_1, nI_add2]
    exact next
  refine g_iconst hX dX5_howManyTold_0 ic0 ?_
  refine g_istore_n (i := 1) hX dX5_howManyTold_1 rfl (by decide) rfl ?_
  refine g_iconst hX dX5_howManyTold_2 ic0 ?_
  refine g_istore_n (i := 2) hX dX5_howManyTold_3 rfl (by decide) rfl ?_
  refine go 0 0 (by decide) (go 1 _ (by decide) (go 2 _ (by decide) (go 3 _ (by decide) ?_)))
  refine g_iload_n (i := 2) hX dX5_howManyTold_4 rfl rfl ?_
  refine g_iconst hX dX5_howManyTold_5 ic4 ?_
  refine g_icmp_ge (tgt := 27) hX dX5_howManyTold_6 (by decide) (fun _ => ?_) (fun h9 => absurd ((by decide)) h9)
  refine g_iload_n (i := 1) hX dX5_howManyTold_27 rfl rfl ?_
  refine g_iret (st := []) hX hE rfl dX5_howManyTold_28 (⟨?_, rfl⟩)
  rw [Nat.zero_add]
