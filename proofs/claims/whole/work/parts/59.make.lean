/-! promise 14: make -/
theorem step_make {Γ : GG} (x1 : Int64) (x2 : Int32) : Step (fun S P => kX9_make Γ [.ref (Γ.1 48), .long x1, .int x2] S P) (fun S P => kX10_make Γ [.ref (Γ.1 67), .long x1, .int x2] S P) := by
  intro S hR
  have l40 : (40 : Int64).toInt = 40 := by decide
  have t40 : (40 : Int32).toInt = 40 := by decide
  by_cases h2 : 0 ≤ x2.toInt ∧ x2.toInt ≤ 40
  case neg =>
    refine ⟨-1000001, fun S1 => S1 = S, ?_, ?_⟩
    · refine oX9_make (fun X hX hE => ?_)
      by_cases q : x2 < 0
      · refine g_iload_n (i := 3) hX dX9_make_0 rfl rfl ?_
        refine g_if_lt (tgt := 10) hX dX9_make_1 (by decide) (fun _ => ?_) (fun h9 => absurd (q) h9)
        refine g_ldc hX ccX9_100 dX9_make_10 ?_
        refine g_iret (st := []) hX hE rfl dX9_make_12 (⟨_, rfl, rfl, rfl⟩)
      · refine g_iload_n (i := 3) hX dX9_make_0 rfl rfl ?_
        refine g_if_lt (tgt := 10) hX dX9_make_1 (by decide) (fun h9 => absurd h9 (q)) (fun _ => ?_)
        refine g_iload_n (i := 3) hX dX9_make_4 rfl rfl ?_
        refine g_bipush hX dX9_make_5 bp40 ?_
        refine g_icmp_le (tgt := 13) hX dX9_make_7 (by decide) (fun h9 => absurd h9 ((by rw [i_lt, t0] at q; rw [i_le, t40]; omega))) (fun _ => ?_)
        refine g_ldc hX ccX9_100 dX9_make_10 ?_
        refine g_iret (st := []) hX hE rfl dX9_make_12 (⟨_, rfl, rfl, rfl⟩)
    · rintro S1 rfl
      refine oX10_make (fun X hX hE => ?_)
      refine g_aload_n (i := 0) hX dX10_make_0 rfl rfl ?_
      refine g_iconst hX dX10_make_1 ic0 ?_
      refine pX10_78 hX dX10_make_2 ?_
      refine g_iload_n (i := 3) hX dX10_make_5 rfl rfl ?_
      refine g_i2l hX dX10_make_6 ?_
      refine g_lconst (v := 0) hX dX10_make_7 (by decide) ?_
      refine g_ldc2_w hX ccX10_242 dX10_make_8 ?_
      refine sX10_87 hX ⟨Nat.le_of_ble_eq_true rfl, Nat.le_of_ble_eq_true rfl⟩ (Nat.le_of_ble_eq_true rfl) dX10_make_11 (c_inI_f (by rw [L0, l40]; exact h2)) ?_
      refine g_if_ne (tgt := 20) hX dX10_make_14 (by decide) (fun h9 => absurd (rfl) h9) (fun _ => ?_)
      refine g_ldc hX ccX10_97 dX10_make_17 ?_
      refine g_iret (st := []) hX hE rfl dX10_make_19 (⟨_, rfl, rfl, hR.thrown⟩)
  obtain ⟨n, hn, rfl⟩ : ∃ n, n ≤ 40 ∧ x2 = nI n := ⟨x2.toInt.toNat, by omega, nI_nat (by omega)⟩
  clear h2
  obtain ⟨w, w1, w2, w3, w4⟩ := hR.2.2.2.1
  obtain ⟨o1, o2⟩ := hR.2.2.2.2.1
  obtain ⟨N, tk, nm, gr, a, b, tok⟩ := hR.2.1
  obtain ⟨W, hWd⟩ : ∃ W : Nat → Nat → Nat, ∀ p i, W p i = if S.1 77 p = 0 then w p i else 0 := ⟨_, fun _ _ => rfl⟩
  obtain ⟨kp, hkd⟩ : ∃ kp : Nat → Nat, ∀ p, kp p = if S.1 55 p = 0 ∧ ¬ nI p = -1000000 then 36 + p else 56 := ⟨_, fun _ => rfl⟩
  have hw99 : ∀ p, p < 4 → ∀ i, i < 11 → w p i ≤ 99 := fun p hp i hi => (w1 p hp i hi).2
  have hW20 : W 2 0 = 0 := by rw [hWd, w3 2 (by decide) 0 (by decide) (by decide), ite_self]
  have hkW : ∀ p, p < 4 → ∀ j, j < 11 → S.1 (kp p) j = nI (W p j) ∧ W p j ≤ 99 := by
    intro p hp j hj
    by_cases q : S.1 55 p = 0
    · rw [hkd, if_pos ⟨q, nI_nN (by omega)⟩, hWd, if_pos (by rw [← (o1 p hp).1]; exact q)]
      exact w1 p hp j hj
    · rw [hkd, if_neg (fun z => q z.1), hWd, if_neg (by rw [← (o1 p hp).1]; exact q)]
      exact ⟨o2 j hj, by decide⟩
  refine ⟨nI (mkN W x1 n).c, fun S1 => RwC S1 21 n (tkM W x1) (nmM W x1) (grM W x1) ∧ Fq [21, 22, 23, 24, 25, 59] [(58, 0), (58, 1), (48, 12), (48, 13)] S S1 ∧ S1.1 48 12 = 1 ∧ S1.2 48 13 = x1, ?_, ?_⟩
  · refine oX9_make (fun X hX hE => ?_)
    have F0 : Fq [] [(48, 12), (48, 13)] S (pJ (pI S 48 12 1) 48 13 x1) := (Fq.rf.I (by decide)).J (by decide)
    have hmk := c_makeRow (Γ := Γ) (S := pJ (pI S 48 12 1) 48 13 x1) (b := 21) (n := n) (x := -1000000) (z := x1) (W := W) (kp := kp) ir21 (by decide) hn (fun p hp => by rw [F0.r (k := 55) (by decide)]; exact hkd p) (fun p hp => by rw [F0.r (k := 55) (by decide), (o1 p hp).1]; exact (o1 p hp).2)
      (fun p hp j hj => by
        rw [F0.row (k := kp p) (by simp) (by
          have hq : kp p = 36 + p ∨ kp p = 56 := by rw [hkd]; split <;> simp
          simp only [List.mem_cons, List.not_mem_nil, or_false]; rintro _ (rfl | rfl) <;> (simp only; omega))]
        exact hkW p hp j hj)
    refine g_iload_n (i := 3) hX dX9_make_0 rfl rfl ?_
    refine g_if_lt (tgt := 10) hX dX9_make_1 (by decide) (fun h9 => absurd h9 (nI_pos (by omega))) (fun _ => ?_)
    refine g_iload_n (i := 3) hX dX9_make_4 rfl rfl ?_
    refine g_bipush hX dX9_make_5 bp40 ?_
    refine g_icmp_le (tgt := 13) hX dX9_make_7 (by decide) (fun _ => ?_) (fun h9 => absurd (nI_le (b := 40) hn (by decide)) h9)
    refine g_aload_n (i := 0) hX dX9_make_13 rfl rfl ?_
    refine g_iconst hX dX9_make_14 ic1 ?_
    refine pX9_77 hX (Or.inr rfl) dX9_make_15 ?_
    refine g_aload_n (i := 0) hX dX9_make_18 rfl rfl ?_
    refine g_lload_n (i := 1) hX dX9_make_19 rfl rfl ?_
    refine pX9_81 hX dX9_make_20 ?_
    refine g_aload_n (i := 0) hX dX9_make_23 rfl rfl ?_
    refine fX9_45 hX dX9_make_24 ?_
    refine g_aload_n (i := 0) hX dX9_make_27 rfl rfl ?_
    refine fX9_22 hX dX9_make_28 ?_
    refine g_aload_n (i := 0) hX dX9_make_31 rfl rfl ?_
    refine fX9_38 hX dX9_make_32 ?_
    refine g_lload_n (i := 1) hX dX9_make_35 rfl rfl ?_
    refine g_iload_n (i := 3) hX dX9_make_36 rfl rfl ?_
    refine g_ldc hX ccX9_153 dX9_make_37 ?_
    refine eX9_208 hX ⟨Nat.le_of_ble_eq_true rfl, Nat.le_of_ble_eq_true rfl⟩ (Nat.le_of_ble_eq_true rfl) dX9_make_39 (hmk) (fun v T hT => ?_)
    refine g_iret (st := []) hX hE rfl dX9_make_42 (⟨_, rfl, hT.1, hT.2.1, ?_, ?_, ?_⟩)
    · exact (F0.mono (fun _ z => by cases z) (by decide)).tr (hT.2.2.mono (by decide) (by decide))
    · rw [(hT.2.2.s (k := 48) (j := 12) (by decide)).1]; rfl
    · rw [(hT.2.2.s (k := 48) (j := 13) (by decide)).2]; exact pJ_self _ _ _ _
  · rintro S1 ⟨rc, hF1, e12, e13⟩
    refine oX10_make (fun X hX hE => ?_)
    have hF0 : Fq [21, 22, 23, 24, 25, 59] [(58, 0), (58, 1), (48, 12), (48, 13), (67, 0)] S (S0 S1) := (hF1.mono (fun _ z => z) (by decide)).I (by decide)
    have hmk := c_makeRowR (Γ := Γ) (S := S0 S1) (r := 1) (n := n) (z := x1) (w := w) (W := W) (by decide) hn hw99 (fun p hp i q1 q2 => by rw [hF0.r (k := 75) (by decide)]; exact w2 p hp i q1 q2) w3 (fun p hp i hi => by rw [hF0.r (k := 77) (by decide)]; exact hWd p i)
    refine g_aload_n (i := 0) hX dX10_make_0 rfl rfl ?_
    refine g_iconst hX dX10_make_1 ic0 ?_
    refine pX10_78 hX dX10_make_2 ?_
    refine g_iload_n (i := 3) hX dX10_make_5 rfl rfl ?_
    refine g_i2l hX dX10_make_6 ?_
    refine g_lconst (v := 0) hX dX10_make_7 (by decide) ?_
    refine g_ldc2_w hX ccX10_242 dX10_make_8 ?_
    refine sX10_87 hX ⟨Nat.le_of_ble_eq_true rfl, Nat.le_of_ble_eq_true rfl⟩ (Nat.le_of_ble_eq_true rfl) dX10_make_11 (c_inI_t (by rw [nI_toInt (by omega), L0]; omega) (by rw [nI_toInt (by omega), l40]; omega)) ?_
    refine g_if_ne (tgt := 20) hX dX10_make_14 (by decide) (fun _ => ?_) (fun h9 => absurd h9 ((by decide)))
    refine g_aload_n (i := 0) hX dX10_make_20 rfl rfl ?_
    refine g_iconst hX dX10_make_21 ic1 ?_
    refine g_lload_n (i := 1) hX dX10_make_22 rfl rfl ?_
    refine g_iload_n (i := 3) hX dX10_make_23 rfl rfl ?_
    refine eX10_244 hX ⟨Nat.le_of_ble_eq_true rfl, Nat.le_of_ble_eq_true rfl⟩ (Nat.le_of_ble_eq_true rfl) dX10_make_24 (hmk) (fun T hT => ?_)
    refine g_aload_n (i := 0) hX dX10_make_27 rfl rfl ?_
    refine g_iconst hX dX10_make_28 ic1 ?_
    refine pX10_248 hX (Or.inr rfl) dX10_make_29 ?_
    refine g_aload_n (i := 0) hX dX10_make_32 rfl rfl ?_
    refine g_lload_n (i := 1) hX dX10_make_33 rfl rfl ?_
    refine pX10_252 hX dX10_make_34 ?_
    refine g_aload_n (i := 0) hX dX10_make_37 rfl rfl ?_
    refine fX10_219 hX dX10_make_38 ?_
    refine g_iret (st := []) hX hE rfl dX10_make_41 (⟨_, rfl, ?_, ?_⟩)
    · exact hT.2.1
    · obtain ⟨hT1, hT2, hT3, hT4⟩ := hT
      have FU : Fq [] [(67, 26), (67, 27)] T (pJ (pI T 67 26 1) 67 27 x1) := (Fq.rf.I (by decide)).J (by decide)
      have u26 : (pJ (pI T 67 26 1) 67 27 x1).1 67 26 = 1 := rfl
      have u27 : (pJ (pI T 67 26 1) 67 27 x1).2 67 27 = x1 := pJ_self _ _ _ _
      generalize pJ (pI T 67 26 1) 67 27 x1 = U at *
      have F2 : Fq [71, 72, 73, 74, 79] [(67, 0), (67, 22), (67, 23), (67, 25), (67, 26), (67, 27)] S1 U := (((Fq.rf (S := S1)).I (k := 67) (j := 0) (x := 0) (by decide)).tr (hT4.mono (by decide) (by decide))).tr (FU.mono (by decide) (by decide))
      have FF : Fq [21, 22, 23, 24, 25, 59, 71, 72, 73, 74, 79] [(58, 0), (58, 1), (48, 12), (48, 13), (67, 0), (67, 22), (67, 23), (67, 25), (67, 26), (67, 27)] S U := (hF1.mono (by decide) (by decide)).tr (F2.mono (by decide) (by decide))
      refine hR.made FF (by decide) (rc.q F2 (by decide)) (hT1.q FU (by decide)) (mk_tr x1 n hW20) ⟨N, tk, nm, gr, a.q FF (by decide), (hT3 _ _ _ _ _ (by decide) a.1 (b.q hF0 (by decide))).q FU (by decide), tok⟩ ⟨?_, Or.inr u26, ?_⟩
      · rw [(F2.s (k := 48) (j := 12) (by decide)).1, e12, u26]
      · rw [(F2.s (k := 48) (j := 13) (by decide)).2, e13, u27]
