/-! the reference's number in a telling: no number stands there -/
theorem c_numberIn_1 {Γ : GG} {S : St} {n g : Nat} {x y : Int32} {b : Nat → Nat} (h0 : S.1 67 20 = 0) (ht : Tok S b n g) (hk : ¬ tkK b n g = 2) : kX10_numberIn Γ [.ref (Γ.1 67), .int x, .int y] S (rI 0 (pI (pI S 67 20 1) 67 21 (nI g))) := by
  refine oX10_numberIn (fun X hX hE => ?_)
  have h4 := tkK_le b n g
  have nk : ¬ S.1 67 17 = 3 := by
    rw [ht.2.2.2]
    exact nI_ne (b := 3) (by unfold kiR; omega) (by decide) (by unfold kiR; omega)
  have cm := c_must_f (Γ := Γ) h0
  rw [ht.1] at cm
  have A56 : ∀ v, G Γ X S 56 [(0, .ref (Γ.1 67)), (1, .int x), (2, .int y), (3, .int 0), (4, .int v)] [] := by
    intro v
    refine g_aload_n (i := 0) hX dX10_numberIn_56 rfl rfl ?_
    refine fX10_149 hX dX10_numberIn_57 ?_
    refine g_iconst hX dX10_numberIn_60 ic3 ?_
    refine g_icmp_ne (tgt := 81) hX dX10_numberIn_61 (by decide) (fun _ => ?_) (fun h9 => absurd h9 (nk))
    refine g_aload_n (i := 0) hX dX10_numberIn_81 rfl rfl ?_
    refine g_aload_n (i := 0) hX dX10_numberIn_82 rfl rfl ?_
    refine fX10_149 hX dX10_numberIn_83 ?_
    refine g_iconst hX dX10_numberIn_86 ic3 ?_
    refine g_icmp_ne (tgt := 94) hX dX10_numberIn_87 (by decide) (fun _ => ?_) (fun h9 => absurd h9 (nk))
    refine g_iconst hX dX10_numberIn_94 ic0 ?_
    refine sX10_174 hX ⟨Nat.le_of_ble_eq_true rfl, Nat.le_of_ble_eq_true rfl⟩ (Nat.le_of_ble_eq_true rfl) dX10_numberIn_95 (cm) ?_
    refine g_iload_n (i := 3) hX dX10_numberIn_98 rfl rfl ?_
    refine g_iret (st := []) hX hE rfl dX10_numberIn_99 (⟨rfl, rfl⟩)
  by_cases q : S.1 67 19 ≤ S.1 67 18
  · refine g_aload_n (i := 0) hX dX10_numberIn_0 rfl rfl ?_
    refine fX10_161 hX dX10_numberIn_1 ?_
    refine g_if_le (tgt := 9) hX dX10_numberIn_4 (by decide) (fun _ => ?_) (fun h9 => absurd ((by rw [h0]; decide)) h9)
    refine g_iconst hX dX10_numberIn_9 ic0 ?_
    refine g_istore_n (i := 3) hX dX10_numberIn_10 rfl (by decide) rfl ?_
    refine g_aload_n (i := 0) hX dX10_numberIn_11 rfl rfl ?_
    refine fX10_146 hX dX10_numberIn_12 ?_
    refine g_istore hX dX10_numberIn_15 (by decide) rfl ?_
    refine g_iload hX dX10_numberIn_17 rfl ?_
    refine g_aload_n (i := 0) hX dX10_numberIn_19 rfl rfl ?_
    refine fX10_158 hX dX10_numberIn_20 ?_
    refine g_icmp_ge (tgt := 56) hX dX10_numberIn_23 (by decide) (fun _ => ?_) (fun h9 => absurd (q) h9)
    exact A56 _
  · refine g_aload_n (i := 0) hX dX10_numberIn_0 rfl rfl ?_
    refine fX10_161 hX dX10_numberIn_1 ?_
    refine g_if_le (tgt := 9) hX dX10_numberIn_4 (by decide) (fun _ => ?_) (fun h9 => absurd ((by rw [h0]; decide)) h9)
    refine g_iconst hX dX10_numberIn_9 ic0 ?_
    refine g_istore_n (i := 3) hX dX10_numberIn_10 rfl (by decide) rfl ?_
    refine g_aload_n (i := 0) hX dX10_numberIn_11 rfl rfl ?_
    refine fX10_146 hX dX10_numberIn_12 ?_
    refine g_istore hX dX10_numberIn_15 (by decide) rfl ?_
    refine g_iload hX dX10_numberIn_17 rfl ?_
    refine g_aload_n (i := 0) hX dX10_numberIn_19 rfl rfl ?_
    refine fX10_158 hX dX10_numberIn_20 ?_
    refine g_icmp_ge (tgt := 56) hX dX10_numberIn_23 (by decide) (fun h9 => absurd h9 (q)) (fun _ => ?_)
    refine g_aload_n (i := 0) hX dX10_numberIn_26 rfl rfl ?_
    refine fX10_149 hX dX10_numberIn_27 ?_
    refine g_iconst hX dX10_numberIn_30 ic3 ?_
    refine g_icmp_ne (tgt := 56) hX dX10_numberIn_31 (by decide) (fun _ => ?_) (fun h9 => absurd h9 (nk))
    exact A56 _
