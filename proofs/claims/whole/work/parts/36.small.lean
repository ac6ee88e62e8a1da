/-! promises 11, 13, 16, 28, 30 and the small parts -/
theorem step_fault {Γ : GG} : Step (fun S P => kX9_fault Γ [.ref (Γ.1 48)] S P) (fun S P => kX10_fault Γ [.ref (Γ.1 67)] S P) := by
  intro S hR
  refine ⟨S.1 48 14, fun S1 => S1 = S, ?_, ?_⟩
  · refine oX9_fault (fun X hX hE => ?_)
    refine g_aload_n (i := 0) hX dX9_fault_0 rfl rfl ?_
    refine fX9_85 hX dX9_fault_1 ?_
    refine g_iret (st := []) hX hE rfl dX9_fault_4 (⟨_, rfl, rfl, rfl⟩)
  · rintro S1 rfl
    refine oX10_fault (fun X hX hE => ?_)
    refine g_aload_n (i := 0) hX dX10_fault_0 rfl rfl ?_
    refine g_iconst hX dX10_fault_1 ic0 ?_
    refine pX10_78 hX dX10_fault_2 ?_
    refine g_aload_n (i := 0) hX dX10_fault_5 rfl rfl ?_
    refine fX10_198 hX dX10_fault_6 ?_
    refine g_iret (st := []) hX hE rfl dX10_fault_9 (⟨_, rfl, hR.2.2.2.2.2.2.2.1.2.1.symm, hR.thrown⟩)
theorem step_status {Γ : GG} : Step (fun S P => kX9_status Γ [.ref (Γ.1 48)] S P) (fun S P => kX10_status Γ [.ref (Γ.1 67)] S P) := by
  intro S hR
  refine ⟨S.1 48 15, fun S1 => S1 = S, ?_, ?_⟩
  · refine oX9_status (fun X hX hE => ?_)
    refine g_aload_n (i := 0) hX dX9_status_0 rfl rfl ?_
    refine fX9_89 hX dX9_status_1 ?_
    refine g_iret (st := []) hX hE rfl dX9_status_4 (⟨_, rfl, rfl, rfl⟩)
  · rintro S1 rfl
    refine oX10_status (fun X hX hE => ?_)
    refine g_aload_n (i := 0) hX dX10_status_0 rfl rfl ?_
    refine g_iconst hX dX10_status_1 ic0 ?_
    refine pX10_78 hX dX10_status_2 ?_
    refine g_aload_n (i := 0) hX dX10_status_5 rfl rfl ?_
    refine fX10_81 hX dX10_status_6 ?_
    refine g_iret (st := []) hX hE rfl dX10_status_9 (⟨_, rfl, hR.2.2.2.2.2.2.2.1.1.symm, hR.thrown⟩)
theorem step_house {Γ : GG} (x1 x2 x3 : Int32) : Step (fun S P => kX9_house Γ [.ref (Γ.1 48), .int x1, .int x2, .int x3] S P) (fun S P => kX10_house Γ [.ref (Γ.1 67), .int x1, .int x2, .int x3] S P) := by
  intro S hR
  have l1 : (1 : Int64).toInt = 1 := by decide
  have l6 : (6 : Int64).toInt = 6 := by decide
  have l9 : (9 : Int64).toInt = 9 := by decide
  have l99 : (99 : Int64).toInt = 99 := by decide
  have t6 : (6 : Int32).toInt = 6 := by decide
  have t99 : (99 : Int32).toInt = 99 := by decide
  by_cases hok : (1 ≤ x1.toInt ∧ x1.toInt ≤ 6) ∧ (1 ≤ x2.toInt ∧ x2.toInt ≤ 9) ∧ (0 ≤ x3.toInt ∧ x3.toInt ≤ 99)
  case neg =>
    refine ⟨-1000001, fun S1 => S1 = S, ?_, ?_⟩
    · refine oX9_house (fun X hX hE => ?_)
      have bad : G Γ X S 32 [(0, .ref (Γ.1 48)), (1, .int x1), (2, .int x2), (3, .int x3)] [] := by
        refine g_ldc hX ccX9_100 dX9_house_32 ?_
        refine g_iret (st := []) hX hE rfl dX9_house_34 (⟨_, rfl, rfl, rfl⟩)
      refine g_iload_n (i := 1) hX dX9_house_0 rfl rfl ?_
      refine g_iconst hX dX9_house_1 ic1 ?_
      refine g_icmp_lt (tgt := 32) hX dX9_house_2 (by decide) (fun q1 => ?_) (fun q1 => ?_)
      · exact bad
      refine g_iload_n (i := 1) hX dX9_house_5 rfl rfl ?_
      refine g_bipush hX dX9_house_6 bp6 ?_
      refine g_icmp_gt (tgt := 32) hX dX9_house_8 (by decide) (fun q2 => ?_) (fun q2 => ?_)
      · exact bad
      refine g_iload_n (i := 2) hX dX9_house_11 rfl rfl ?_
      refine g_iconst hX dX9_house_12 ic1 ?_
      refine g_icmp_lt (tgt := 32) hX dX9_house_13 (by decide) (fun q3 => ?_) (fun q3 => ?_)
      · exact bad
      refine g_iload_n (i := 2) hX dX9_house_16 rfl rfl ?_
      refine g_bipush hX dX9_house_17 bp9 ?_
      refine g_icmp_gt (tgt := 32) hX dX9_house_19 (by decide) (fun q4 => ?_) (fun q4 => ?_)
      · exact bad
      refine g_iload_n (i := 3) hX dX9_house_22 rfl rfl ?_
      refine g_if_lt (tgt := 32) hX dX9_house_23 (by decide) (fun q5 => ?_) (fun q5 => ?_)
      · exact bad
      refine g_iload_n (i := 3) hX dX9_house_26 rfl rfl ?_
      refine g_bipush hX dX9_house_27 bp99 ?_
      refine g_icmp_le (tgt := 35) hX dX9_house_29 (by decide) (fun q6 => ?_) (fun q6 => ?_)
      · rw [i_lt, t1] at q1 q3
        rw [i_lt, t6] at q2
        rw [i_lt, t9] at q4
        rw [i_lt, t0] at q5
        rw [i_le, t99] at q6
        exact absurd ⟨⟨by omega, by omega⟩, ⟨by omega, by omega⟩, by omega, by omega⟩ hok
      · exact bad
    · rintro S1 rfl
      refine oX10_house (fun X hX hE => ?_)
      have bad : G Γ X (S0 S1) 41 [(0, .ref (Γ.1 67)), (1, .int x1), (2, .int x2), (3, .int x3)] [] := by
        refine g_ldc hX ccX10_97 dX10_house_41 ?_
        refine g_iret (st := []) hX hE rfl dX10_house_43 (⟨_, rfl, rfl, hR.thrown⟩)
      by_cases q1 : 1 ≤ x1.toInt ∧ x1.toInt ≤ 6
      case neg =>
        refine g_aload_n (i := 0) hX dX10_house_0 rfl rfl ?_
        refine g_iconst hX dX10_house_1 ic0 ?_
        refine pX10_78 hX dX10_house_2 ?_
        refine g_iload_n (i := 1) hX dX10_house_5 rfl rfl ?_
        refine g_i2l hX dX10_house_6 ?_
        refine g_lconst (v := 1) hX dX10_house_7 (by decide) ?_
        refine g_ldc2_w hX ccX10_255 dX10_house_8 ?_
        refine sX10_87 hX ⟨Nat.le_of_ble_eq_true rfl, Nat.le_of_ble_eq_true rfl⟩ (Nat.le_of_ble_eq_true rfl) dX10_house_11 (c_inI_f (by rw [l1, l6]; exact q1)) ?_
        refine g_if_eq (tgt := 41) hX dX10_house_14 (by decide) (fun _ => ?_) (fun h9 => absurd (rfl) h9)
        exact bad
      by_cases q2 : 1 ≤ x2.toInt ∧ x2.toInt ≤ 9
      case neg =>
        refine g_aload_n (i := 0) hX dX10_house_0 rfl rfl ?_
        refine g_iconst hX dX10_house_1 ic0 ?_
        refine pX10_78 hX dX10_house_2 ?_
        refine g_iload_n (i := 1) hX dX10_house_5 rfl rfl ?_
        refine g_i2l hX dX10_house_6 ?_
        refine g_lconst (v := 1) hX dX10_house_7 (by decide) ?_
        refine g_ldc2_w hX ccX10_255 dX10_house_8 ?_
        refine sX10_87 hX ⟨Nat.le_of_ble_eq_true rfl, Nat.le_of_ble_eq_true rfl⟩ (Nat.le_of_ble_eq_true rfl) dX10_house_11 (c_inI_t (by rw [l1]; exact q1.1) (by rw [l6]; exact q1.2)) ?_
        refine g_if_eq (tgt := 41) hX dX10_house_14 (by decide) (fun h9 => absurd h9 ((by decide))) (fun _ => ?_)
        refine g_iload_n (i := 2) hX dX10_house_17 rfl rfl ?_
        refine g_i2l hX dX10_house_18 ?_
        refine g_lconst (v := 1) hX dX10_house_19 (by decide) ?_
        refine g_ldc2_w hX ccX10_112 dX10_house_20 ?_
        refine sX10_87 hX ⟨Nat.le_of_ble_eq_true rfl, Nat.le_of_ble_eq_true rfl⟩ (Nat.le_of_ble_eq_true rfl) dX10_house_23 (c_inI_f (by rw [l1, l9]; exact q2)) ?_
        refine g_if_eq (tgt := 41) hX dX10_house_26 (by decide) (fun _ => ?_) (fun h9 => absurd (rfl) h9)
        exact bad
      refine g_aload_n (i := 0) hX dX10_house_0 rfl rfl ?_
      refine g_iconst hX dX10_house_1 ic0 ?_
      refine pX10_78 hX dX10_house_2 ?_
      refine g_iload_n (i := 1) hX dX10_house_5 rfl rfl ?_
      refine g_i2l hX dX10_house_6 ?_
      refine g_lconst (v := 1) hX dX10_house_7 (by decide) ?_
      refine g_ldc2_w hX ccX10_255 dX10_house_8 ?_
      refine sX10_87 hX ⟨Nat.le_of_ble_eq_true rfl, Nat.le_of_ble_eq_true rfl⟩ (Nat.le_of_ble_eq_true rfl) dX10_house_11 (c_inI_t (by rw [l1]; exact q1.1) (by rw [l6]; exact q1.2)) ?_
      refine g_if_eq (tgt := 41) hX dX10_house_14 (by decide) (fun h9 => absurd h9 ((by decide))) (fun _ => ?_)
      refine g_iload_n (i := 2) hX dX10_house_17 rfl rfl ?_
      refine g_i2l hX dX10_house_18 ?_
      refine g_lconst (v := 1) hX dX10_house_19 (by decide) ?_
      refine g_ldc2_w hX ccX10_112 dX10_house_20 ?_
      refine sX10_87 hX ⟨Nat.le_of_ble_eq_true rfl, Nat.le_of_ble_eq_true rfl⟩ (Nat.le_of_ble_eq_true rfl) dX10_house_23 (c_inI_t (by rw [l1]; exact q2.1) (by rw [l9]; exact q2.2)) ?_
      refine g_if_eq (tgt := 41) hX dX10_house_26 (by decide) (fun h9 => absurd h9 ((by decide))) (fun _ => ?_)
      refine g_iload_n (i := 3) hX dX10_house_29 rfl rfl ?_
      refine g_i2l hX dX10_house_30 ?_
      refine g_lconst (v := 0) hX dX10_house_31 (by decide) ?_
      refine g_ldc2_w hX ccX10_257 dX10_house_32 ?_
      refine sX10_87 hX ⟨Nat.le_of_ble_eq_true rfl, Nat.le_of_ble_eq_true rfl⟩ (Nat.le_of_ble_eq_true rfl) dX10_house_35 (c_inI_f (by rw [L0, l99]; exact fun z => hok ⟨q1, q2, z⟩)) ?_
      refine g_if_ne (tgt := 44) hX dX10_house_38 (by decide) (fun h9 => absurd (rfl) h9) (fun _ => ?_)
      exact bad
  obtain ⟨q1, q2, q3⟩ := hok
  refine ⟨1, fun S1 => S1 = pI (pI (pI S 60 0 x1) 60 1 x2) 60 2 x3, ?_, ?_⟩
  · refine oX9_house (fun X hX hE => ?_)
    refine g_iload_n (i := 1) hX dX9_house_0 rfl rfl ?_
    refine g_iconst hX dX9_house_1 ic1 ?_
    refine g_icmp_lt (tgt := 32) hX dX9_house_2 (by decide) (fun h9 => absurd h9 ((by rw [i_lt, t1]; omega))) (fun _ => ?_)
    refine g_iload_n (i := 1) hX dX9_house_5 rfl rfl ?_
    refine g_bipush hX dX9_house_6 bp6 ?_
    refine g_icmp_gt (tgt := 32) hX dX9_house_8 (by decide) (fun h9 => absurd h9 ((by rw [i_lt, t6]; omega))) (fun _ => ?_)
    refine g_iload_n (i := 2) hX dX9_house_11 rfl rfl ?_
    refine g_iconst hX dX9_house_12 ic1 ?_
    refine g_icmp_lt (tgt := 32) hX dX9_house_13 (by decide) (fun h9 => absurd h9 ((by rw [i_lt, t1]; omega))) (fun _ => ?_)
    refine g_iload_n (i := 2) hX dX9_house_16 rfl rfl ?_
    refine g_bipush hX dX9_house_17 bp9 ?_
    refine g_icmp_gt (tgt := 32) hX dX9_house_19 (by decide) (fun h9 => absurd h9 ((by rw [i_lt, t9]; omega))) (fun _ => ?_)
    refine g_iload_n (i := 3) hX dX9_house_22 rfl rfl ?_
    refine g_if_lt (tgt := 32) hX dX9_house_23 (by decide) (fun h9 => absurd h9 ((by rw [i_lt, t0]; omega))) (fun _ => ?_)
    refine g_iload_n (i := 3) hX dX9_house_26 rfl rfl ?_
    refine g_bipush hX dX9_house_27 bp99 ?_
    refine g_icmp_le (tgt := 35) hX dX9_house_29 (by decide) (fun _ => ?_) (fun h9 => absurd ((by rw [i_le, t99]; omega)) h9)
    refine g_aload_n (i := 0) hX dX9_house_35 rfl rfl ?_
    refine fX9_52 hX dX9_house_36 ?_
    refine g_iload_n (i := 1) hX dX9_house_39 rfl rfl ?_
    refine pX9_212 hX dX9_house_40 ?_
    refine g_aload_n (i := 0) hX dX9_house_43 rfl rfl ?_
    refine fX9_52 hX dX9_house_44 ?_
    refine g_iload_n (i := 2) hX dX9_house_47 rfl rfl ?_
    refine pX9_215 hX dX9_house_48 ?_
    refine g_aload_n (i := 0) hX dX9_house_51 rfl rfl ?_
    refine fX9_52 hX dX9_house_52 ?_
    refine g_iload_n (i := 3) hX dX9_house_55 rfl rfl ?_
    refine pX9_218 hX dX9_house_56 ?_
    refine g_iconst hX dX9_house_59 ic1 ?_
    refine g_iret (st := []) hX hE rfl dX9_house_60 (⟨_, rfl, rfl, rfl⟩)
  · rintro S1 rfl
    refine oX10_house (fun X hX hE => ?_)
    refine g_aload_n (i := 0) hX dX10_house_0 rfl rfl ?_
    refine g_iconst hX dX10_house_1 ic0 ?_
    refine pX10_78 hX dX10_house_2 ?_
    refine g_iload_n (i := 1) hX dX10_house_5 rfl rfl ?_
    refine g_i2l hX dX10_house_6 ?_
    refine g_lconst (v := 1) hX dX10_house_7 (by decide) ?_
    refine g_ldc2_w hX ccX10_255 dX10_house_8 ?_
    refine sX10_87 hX ⟨Nat.le_of_ble_eq_true rfl, Nat.le_of_ble_eq_true rfl⟩ (Nat.le_of_ble_eq_true rfl) dX10_house_11 (c_inI_t (by rw [l1]; exact q1.1) (by rw [l6]; exact q1.2)) ?_
    refine g_if_eq (tgt := 41) hX dX10_house_14 (by decide) (fun h9 => absurd h9 ((by decide))) (fun _ => ?_)
    refine g_iload_n (i := 2) hX dX10_house_17 rfl rfl ?_
    refine g_i2l hX dX10_house_18 ?_
    refine g_lconst (v := 1) hX dX10_house_19 (by decide) ?_
    refine g_ldc2_w hX ccX10_112 dX10_house_20 ?_
    refine sX10_87 hX ⟨Nat.le_of_ble_eq_true rfl, Nat.le_of_ble_eq_true rfl⟩ (Nat.le_of_ble_eq_true rfl) dX10_house_23 (c_inI_t (by rw [l1]; exact q2.1) (by rw [l9]; exact q2.2)) ?_
    refine g_if_eq (tgt := 41) hX dX10_house_26 (by decide) (fun h9 => absurd h9 ((by decide))) (fun _ => ?_)
    refine g_iload_n (i := 3) hX dX10_house_29 rfl rfl ?_
    refine g_i2l hX dX10_house_30 ?_
    refine g_lconst (v := 0) hX dX10_house_31 (by decide) ?_
    refine g_ldc2_w hX ccX10_257 dX10_house_32 ?_
    refine sX10_87 hX ⟨Nat.le_of_ble_eq_true rfl, Nat.le_of_ble_eq_true rfl⟩ (Nat.le_of_ble_eq_true rfl) dX10_house_35 (c_inI_t (by rw [L0]; exact q3.1) (by rw [l99]; exact q3.2)) ?_
    refine g_if_ne (tgt := 44) hX dX10_house_38 (by decide) (fun _ => ?_) (fun h9 => absurd h9 ((by decide)))
    refine g_aload_n (i := 0) hX dX10_house_44 rfl rfl ?_
    refine g_iload_n (i := 1) hX dX10_house_45 rfl rfl ?_
    refine pX10_47 hX dX10_house_46 ?_
    refine g_aload_n (i := 0) hX dX10_house_49 rfl rfl ?_
    refine g_iload_n (i := 2) hX dX10_house_50 rfl rfl ?_
    refine pX10_51 hX dX10_house_51 ?_
    refine g_aload_n (i := 0) hX dX10_house_54 rfl rfl ?_
    refine g_iload_n (i := 3) hX dX10_house_55 rfl rfl ?_
    refine pX10_54 hX dX10_house_56 ?_
    refine g_iconst hX dX10_house_59 ic1 ?_
    refine g_iret (st := []) hX hE rfl dX10_house_60 (⟨_, rfl, rfl, ?_⟩)
    generalize hS2 : pI (pI (pI (pI (pI (pI (pI S 60 0 x1) 60 1 x2) 60 2 x3) 67 0 0) 67 28 x1) 67 29 x2) 67 30 x3 = S2
    have hF : Fq [] [(60, 0), (60, 1), (60, 2), (67, 0), (67, 28), (67, 29), (67, 30)] S S2 := by
      rw [← hS2]
      exact ((((((Fq.rf.I (by decide)).I (by decide)).I (by decide)).I (by decide)).I (by decide)).I (by decide)).I (by decide)
    have hH : HsRel S2 := by
      rw [← hS2]
      exact ⟨rfl, rfl, rfl, ⟨x1.toInt.toNat, by omega, by omega, (show x1 = nI x1.toInt.toNat from nI_nat (by omega))⟩, q2, q3⟩
    obtain ⟨r1, r2, r3, r4, r5, r6, r7, r8, r9⟩ := hR
    exact ⟨r1.q hF (by decide), r2.q hF (by decide), r3.q hF (by decide), r4.q hF (by decide), r5.q hF (by decide), r6.q hF (by decide), hH, r8.q hF (by decide), r9.q hF (by decide)⟩
theorem step_trace {Γ : GG} (x1 : Int32) : Step (fun S P => kX9_trace Γ [.ref (Γ.1 48), .int x1] S P) (fun S P => kX10_trace Γ [.ref (Γ.1 67), .int x1] S P) := by
  intro S hR
  obtain ⟨t, h16, e1, e2, e3⟩ := hR.2.2.2.2.2.2.2.2
  by_cases h1 : inB x1 t
  case neg =>
    refine ⟨-1000000, fun S1 => S1 = S, ?_, ?_⟩
    · refine oX9_trace (fun X hX hE => ?_)
      refine g_iload_n (i := 1) hX dX9_trace_0 rfl rfl ?_
      refine g_aload_n (i := 0) hX dX9_trace_1 rfl rfl ?_
      refine fX9_66 hX dX9_trace_2 ?_
      refine fX9_276 hX dX9_trace_5 ?_
      refine sX9_96 hX ⟨Nat.le_of_ble_eq_true rfl, Nat.le_of_ble_eq_true rfl⟩ (Nat.le_of_ble_eq_true rfl) dX9_trace_8 ((by rw [e1]; exact isB_f (by omega) h1)) ?_
      refine g_if_eq (tgt := 26) hX dX9_trace_11 (by decide) (fun _ => ?_) (fun h9 => absurd (rfl) h9)
      refine g_ldc hX ccX9_153 dX9_trace_26 ?_
      refine g_iret (st := []) hX hE rfl dX9_trace_28 (⟨_, rfl, rfl, rfl⟩)
    · rintro S1 rfl
      refine oX10_trace (fun X hX hE => ?_)
      rw [inB_iff (by omega)] at h1
      have e2' : (S0 S1).1 67 38 = nI t := e2
      refine g_aload_n (i := 0) hX dX10_trace_0 rfl rfl ?_
      refine g_iconst hX dX10_trace_1 ic0 ?_
      refine pX10_78 hX dX10_trace_2 ?_
      refine g_iload_n (i := 1) hX dX10_trace_5 rfl rfl ?_
      refine g_i2l hX dX10_trace_6 ?_
      refine g_lconst (v := 0) hX dX10_trace_7 (by decide) ?_
      refine g_aload_n (i := 0) hX dX10_trace_8 rfl rfl ?_
      refine fX10_300 hX dX10_trace_9 ?_
      refine g_iconst hX dX10_trace_12 ic1 ?_
      refine g_isub hX dX10_trace_13 ?_
      refine g_i2l hX dX10_trace_14 ?_
      refine sX10_87 hX ⟨Nat.le_of_ble_eq_true rfl, Nat.le_of_ble_eq_true rfl⟩ (Nat.le_of_ble_eq_true rfl) dX10_trace_15 (c_inI_f (by rw [L0, l_i, e2', i_sub (by rw [nI_toInt (by omega), t1]; omega) (by rw [nI_toInt (by omega), t1]; omega), nI_toInt (by omega), t1]; omega)) ?_
      refine g_if_eq (tgt := 30) hX dX10_trace_18 (by decide) (fun _ => ?_) (fun h9 => absurd (rfl) h9)
      refine g_ldc hX ccX10_106 dX10_trace_30 ?_
      refine g_iret (st := []) hX hE rfl dX10_trace_32 (⟨_, rfl, rfl, hR.thrown⟩)
  obtain ⟨i, hi, rfl⟩ := h1
  refine ⟨S.1 64 i, fun S1 => S1 = S, ?_, ?_⟩
  · refine oX9_trace (fun X hX hE => ?_)
    refine g_iload_n (i := 1) hX dX9_trace_0 rfl rfl ?_
    refine g_aload_n (i := 0) hX dX9_trace_1 rfl rfl ?_
    refine fX9_66 hX dX9_trace_2 ?_
    refine fX9_276 hX dX9_trace_5 ?_
    refine sX9_96 hX ⟨Nat.le_of_ble_eq_true rfl, Nat.le_of_ble_eq_true rfl⟩ (Nat.le_of_ble_eq_true rfl) dX9_trace_8 ((by rw [e1]; exact isB_t hi (by omega))) ?_
    refine g_if_eq (tgt := 26) hX dX9_trace_11 (by decide) (fun h9 => absurd h9 ((by decide))) (fun _ => ?_)
    refine g_aload_n (i := 0) hX dX9_trace_14 rfl rfl ?_
    refine fX9_66 hX dX9_trace_15 ?_
    refine fX9_279 hX dX9_trace_18 ?_
    refine g_iload_n (i := 1) hX dX9_trace_21 rfl rfl ?_
    refine g_ialoadN hX (ia64) rfl ((show i < 16 by omega)) (by first | decide | assumption | omega) dX9_trace_22 ?_
    refine g_goto (tgt := 28) hX dX9_trace_23 (by decide) ?_
    refine g_iret (st := []) hX hE rfl dX9_trace_28 (⟨_, rfl, rfl, rfl⟩)
  · rintro S1 rfl
    refine oX10_trace (fun X hX hE => ?_)
    have e2' : (S0 S1).1 67 38 = nI t := e2
    refine g_aload_n (i := 0) hX dX10_trace_0 rfl rfl ?_
    refine g_iconst hX dX10_trace_1 ic0 ?_
    refine pX10_78 hX dX10_trace_2 ?_
    refine g_iload_n (i := 1) hX dX10_trace_5 rfl rfl ?_
    refine g_i2l hX dX10_trace_6 ?_
    refine g_lconst (v := 0) hX dX10_trace_7 (by decide) ?_
    refine g_aload_n (i := 0) hX dX10_trace_8 rfl rfl ?_
    refine fX10_300 hX dX10_trace_9 ?_
    refine g_iconst hX dX10_trace_12 ic1 ?_
    refine g_isub hX dX10_trace_13 ?_
    refine g_i2l hX dX10_trace_14 ?_
    refine sX10_87 hX ⟨Nat.le_of_ble_eq_true rfl, Nat.le_of_ble_eq_true rfl⟩ (Nat.le_of_ble_eq_true rfl) dX10_trace_15 (c_inI_t (by rw [L0, nI_toInt (by omega)]; omega) (by rw [l_i, e2', i_sub (by rw [nI_toInt (by omega), t1]; omega) (by rw [nI_toInt (by omega), t1]; omega), nI_toInt (by omega), nI_toInt (by omega), t1]; omega)) ?_
    refine g_if_eq (tgt := 30) hX dX10_trace_18 (by decide) (fun h9 => absurd h9 ((by decide))) (fun _ => ?_)
    refine g_aload_n (i := 0) hX dX10_trace_21 rfl rfl ?_
    refine fX10_75 hX dX10_trace_22 ?_
    refine g_iload_n (i := 1) hX dX10_trace_25 rfl rfl ?_
    refine g_ialoadN hX (ia85) rfl ((show i < 16 by omega)) (by first | decide | assumption | omega) dX10_trace_26 ?_
    refine g_goto (tgt := 32) hX dX10_trace_27 (by decide) ?_
    refine g_iret (st := []) hX hE rfl dX10_trace_32 (⟨_, rfl, (e3 i hi).symm, hR.thrown⟩)
theorem leaveV {Γ : GG} {X : XT} {fr lo : Nat} {S : St} {p j : Nat} (hX : Cx Γ RX9 cX9_leave 4 (some .int) fr lo X) (hp : p < 4) (hj : j < 2) (ho : S.1 55 p = 0 ∨ S.1 55 p = 1) (k : G Γ X (pI S 55 p (nI j)) 56 [(0, .ref (Γ.1 48)), (1, .int (nI p)), (2, .int (nI j)), (3, .int (S.1 55 p))] []) : G Γ X S 19 [(0, .ref (Γ.1 48)), (1, .int (nI p)), (2, .int (nI j))] [] := by
  have fin : ∀ v, v = S.1 55 p → G Γ X S 36 [(0, .ref (Γ.1 48)), (1, .int (nI p)), (2, .int (nI j))] [.int v] := by
    intro v hv
    subst hv
    rcases (by omega : j = 0 ∨ j = 1) with rfl | rfl
    · refine g_istore_n (i := 3) hX dX9_leave_36 rfl (by decide) rfl ?_
      refine g_aload_n (i := 0) hX dX9_leave_37 rfl rfl ?_
      refine fX9_38 hX dX9_leave_38 ?_
      refine fX9_204 hX dX9_leave_41 ?_
      refine g_iload_n (i := 1) hX dX9_leave_44 rfl rfl ?_
      refine g_iload_n (i := 2) hX dX9_leave_45 rfl rfl ?_
      refine g_iconst hX dX9_leave_46 ic1 ?_
      refine g_icmp_ne (tgt := 54) hX dX9_leave_47 (by decide) (fun _ => ?_) (fun h9 => absurd h9 ((by decide)))
      refine g_iconst hX dX9_leave_54 ic0 ?_
      refine g_bastoreN hX (show 55 < NC by decide) (show lay 55 = (1, 4, []) by decide) (Or.inl rfl) rfl (hp) (by decide) dX9_leave_55 ?_
      exact k
    · refine g_istore_n (i := 3) hX dX9_leave_36 rfl (by decide) rfl ?_
      refine g_aload_n (i := 0) hX dX9_leave_37 rfl rfl ?_
      refine fX9_38 hX dX9_leave_38 ?_
      refine fX9_204 hX dX9_leave_41 ?_
      refine g_iload_n (i := 1) hX dX9_leave_44 rfl rfl ?_
      refine g_iload_n (i := 2) hX dX9_leave_45 rfl rfl ?_
      refine g_iconst hX dX9_leave_46 ic1 ?_
      refine g_icmp_ne (tgt := 54) hX dX9_leave_47 (by decide) (fun h9 => absurd (rfl) h9) (fun _ => ?_)
      refine g_iconst hX dX9_leave_50 ic1 ?_
      refine g_goto (tgt := 55) hX dX9_leave_51 (by decide) ?_
      refine g_bastoreN hX (show 55 < NC by decide) (show lay 55 = (1, 4, []) by decide) (Or.inr rfl) rfl (hp) (by decide) dX9_leave_55 ?_
      exact k
  rcases ho with h | h
  · refine g_aload_n (i := 0) hX dX9_leave_19 rfl rfl ?_
    refine fX9_38 hX dX9_leave_20 ?_
    refine fX9_204 hX dX9_leave_23 ?_
    refine g_iload_n (i := 1) hX dX9_leave_26 rfl rfl ?_
    refine g_baloadN hX (show 55 < NC by decide) (show lay 55 = (1, 4, []) by decide) rfl (hp) (by decide) dX9_leave_27 ?_
    refine g_if_eq (tgt := 35) hX dX9_leave_28 (by decide) (fun _ => ?_) (fun h9 => absurd (h) h9)
    refine g_iconst hX dX9_leave_35 ic0 ?_
    exact fin _ h.symm
  · refine g_aload_n (i := 0) hX dX9_leave_19 rfl rfl ?_
    refine fX9_38 hX dX9_leave_20 ?_
    refine fX9_204 hX dX9_leave_23 ?_
    refine g_iload_n (i := 1) hX dX9_leave_26 rfl rfl ?_
    refine g_baloadN hX (show 55 < NC by decide) (show lay 55 = (1, 4, []) by decide) rfl (hp) (by decide) dX9_leave_27 ?_
    refine g_if_eq (tgt := 35) hX dX9_leave_28 (by decide) (fun h9 => absurd h9 ((by rw [h]; decide))) (fun _ => ?_)
    refine g_iconst hX dX9_leave_31 ic1 ?_
    refine g_goto (tgt := 36) hX dX9_leave_32 (by decide) ?_
    exact fin _ h.symm
theorem leaveR {Γ : GG} {X : XT} {fr lo : Nat} {S : St} {p j : Nat} (hX : Cx Γ RX10 cX10_leave 4 (some .int) fr lo X) (hp : p < 4) (hj : j < 2) (ho : S.1 77 p = 0 ∨ S.1 77 p = 1) (k : G Γ X (pI S 77 p (nI j)) 56 [(0, .ref (Γ.1 67)), (1, .int (nI p)), (2, .int (nI j)), (3, .int (S.1 77 p))] []) : G Γ X S 25 [(0, .ref (Γ.1 67)), (1, .int (nI p)), (2, .int (nI j))] [] := by
  have fin : ∀ v, v = S.1 77 p → G Γ X S 39 [(0, .ref (Γ.1 67)), (1, .int (nI p)), (2, .int (nI j))] [.int v] := by
    intro v hv
    subst hv
    rcases (by omega : j = 0 ∨ j = 1) with rfl | rfl
    · refine g_istore_n (i := 3) hX dX10_leave_39 rfl (by decide) rfl ?_
      refine g_aload_n (i := 0) hX dX10_leave_40 rfl rfl ?_
      refine fX10_37 hX dX10_leave_41 ?_
      refine g_iload_n (i := 1) hX dX10_leave_44 rfl rfl ?_
      refine g_iload_n (i := 2) hX dX10_leave_45 rfl rfl ?_
      refine g_iconst hX dX10_leave_46 ic1 ?_
      refine g_icmp_ne (tgt := 54) hX dX10_leave_47 (by decide) (fun _ => ?_) (fun h9 => absurd h9 ((by decide)))
      refine g_iconst hX dX10_leave_54 ic0 ?_
      refine g_bastoreN hX (show 77 < NC by decide) (show lay 77 = (1, 4, []) by decide) (Or.inl rfl) rfl (hp) (by decide) dX10_leave_55 ?_
      exact k
    · refine g_istore_n (i := 3) hX dX10_leave_39 rfl (by decide) rfl ?_
      refine g_aload_n (i := 0) hX dX10_leave_40 rfl rfl ?_
      refine fX10_37 hX dX10_leave_41 ?_
      refine g_iload_n (i := 1) hX dX10_leave_44 rfl rfl ?_
      refine g_iload_n (i := 2) hX dX10_leave_45 rfl rfl ?_
      refine g_iconst hX dX10_leave_46 ic1 ?_
      refine g_icmp_ne (tgt := 54) hX dX10_leave_47 (by decide) (fun h9 => absurd (rfl) h9) (fun _ => ?_)
      refine g_iconst hX dX10_leave_50 ic1 ?_
      refine g_goto (tgt := 55) hX dX10_leave_51 (by decide) ?_
      refine g_bastoreN hX (show 77 < NC by decide) (show lay 77 = (1, 4, []) by decide) (Or.inr rfl) rfl (hp) (by decide) dX10_leave_55 ?_
      exact k
  rcases ho with h | h
  · refine g_aload_n (i := 0) hX dX10_leave_25 rfl rfl ?_
    refine fX10_37 hX dX10_leave_26 ?_
    refine g_iload_n (i := 1) hX dX10_leave_29 rfl rfl ?_
    refine g_baloadN hX (show 77 < NC by decide) (show lay 77 = (1, 4, []) by decide) rfl (hp) (by decide) dX10_leave_30 ?_
    refine g_if_eq (tgt := 38) hX dX10_leave_31 (by decide) (fun _ => ?_) (fun h9 => absurd (h) h9)
    refine g_iconst hX dX10_leave_38 ic0 ?_
    exact fin _ h.symm
  · refine g_aload_n (i := 0) hX dX10_leave_25 rfl rfl ?_
    refine fX10_37 hX dX10_leave_26 ?_
    refine g_iload_n (i := 1) hX dX10_leave_29 rfl rfl ?_
    refine g_baloadN hX (show 77 < NC by decide) (show lay 77 = (1, 4, []) by decide) rfl (hp) (by decide) dX10_leave_30 ?_
    refine g_if_eq (tgt := 38) hX dX10_leave_31 (by decide) (fun h9 => absurd h9 ((by rw [h]; decide))) (fun _ => ?_)
    refine g_iconst hX dX10_leave_34 ic1 ?_
    refine g_goto (tgt := 39) hX dX10_leave_35 (by decide) ?_
    exact fin _ h.symm
theorem step_leave {Γ : GG} (x1 x2 : Int32) : Step (fun S P => kX9_leave Γ [.ref (Γ.1 48), .int x1, .int x2] S P) (fun S P => kX10_leave Γ [.ref (Γ.1 67), .int x1, .int x2] S P) := by
  intro S hR
  by_cases h1 : inB x1 4
  case neg =>
    refine ⟨-1000001, fun S1 => S1 = S, ?_, ?_⟩
    · refine oX9_leave (fun X hX hE => ?_)
      refine g_iload_n (i := 1) hX dX9_leave_0 rfl rfl ?_
      refine g_iconst hX dX9_leave_1 ic4 ?_
      refine sX9_96 hX ⟨Nat.le_of_ble_eq_true rfl, Nat.le_of_ble_eq_true rfl⟩ (Nat.le_of_ble_eq_true rfl) dX9_leave_2 (isB_f (n := 4) (by decide) h1) ?_
      refine g_if_eq (tgt := 16) hX dX9_leave_5 (by decide) (fun _ => ?_) (fun h9 => absurd (rfl) h9)
      refine g_ldc hX ccX9_100 dX9_leave_16 ?_
      refine g_iret (st := []) hX hE rfl dX9_leave_18 (⟨_, rfl, rfl, rfl⟩)
    · rintro S1 rfl
      refine oX10_leave (fun X hX hE => ?_)
      refine g_aload_n (i := 0) hX dX10_leave_0 rfl rfl ?_
      refine g_iconst hX dX10_leave_1 ic0 ?_
      refine pX10_78 hX dX10_leave_2 ?_
      refine g_iload_n (i := 1) hX dX10_leave_5 rfl rfl ?_
      refine sX10_202 hX ⟨Nat.le_of_ble_eq_true rfl, Nat.le_of_ble_eq_true rfl⟩ (Nat.le_of_ble_eq_true rfl) dX10_leave_6 (c_isPart_f h1) ?_
      refine g_if_eq (tgt := 22) hX dX10_leave_9 (by decide) (fun _ => ?_) (fun h9 => absurd (rfl) h9)
      refine g_ldc hX ccX10_97 dX10_leave_22 ?_
      refine g_iret (st := []) hX hE rfl dX10_leave_24 (⟨_, rfl, rfl, hR.thrown⟩)
  obtain ⟨p, hp, rfl⟩ := h1
  by_cases h2 : inB x2 2
  case neg =>
    refine ⟨-1000001, fun S1 => S1 = S, ?_, ?_⟩
    · refine oX9_leave (fun X hX hE => ?_)
      refine g_iload_n (i := 1) hX dX9_leave_0 rfl rfl ?_
      refine g_iconst hX dX9_leave_1 ic4 ?_
      refine sX9_96 hX ⟨Nat.le_of_ble_eq_true rfl, Nat.le_of_ble_eq_true rfl⟩ (Nat.le_of_ble_eq_true rfl) dX9_leave_2 (isB_t (n := 4) hp (by decide)) ?_
      refine g_if_eq (tgt := 16) hX dX9_leave_5 (by decide) (fun h9 => absurd h9 ((by decide))) (fun _ => ?_)
      refine g_iload_n (i := 2) hX dX9_leave_8 rfl rfl ?_
      refine g_iconst hX dX9_leave_9 ic2 ?_
      refine sX9_96 hX ⟨Nat.le_of_ble_eq_true rfl, Nat.le_of_ble_eq_true rfl⟩ (Nat.le_of_ble_eq_true rfl) dX9_leave_10 (isB_f (n := 2) (by decide) h2) ?_
      refine g_if_ne (tgt := 19) hX dX9_leave_13 (by decide) (fun h9 => absurd (rfl) h9) (fun _ => ?_)
      refine g_ldc hX ccX9_100 dX9_leave_16 ?_
      refine g_iret (st := []) hX hE rfl dX9_leave_18 (⟨_, rfl, rfl, rfl⟩)
    · rintro S1 rfl
      refine oX10_leave (fun X hX hE => ?_)
      rw [inB_iff (by decide)] at h2
      refine g_aload_n (i := 0) hX dX10_leave_0 rfl rfl ?_
      refine g_iconst hX dX10_leave_1 ic0 ?_
      refine pX10_78 hX dX10_leave_2 ?_
      refine g_iload_n (i := 1) hX dX10_leave_5 rfl rfl ?_
      refine sX10_202 hX ⟨Nat.le_of_ble_eq_true rfl, Nat.le_of_ble_eq_true rfl⟩ (Nat.le_of_ble_eq_true rfl) dX10_leave_6 (c_isPart_t hp) ?_
      refine g_if_eq (tgt := 22) hX dX10_leave_9 (by decide) (fun h9 => absurd h9 ((by decide))) (fun _ => ?_)
      refine g_iload_n (i := 2) hX dX10_leave_12 rfl rfl ?_
      refine g_i2l hX dX10_leave_13 ?_
      refine g_lconst (v := 0) hX dX10_leave_14 (by decide) ?_
      refine g_lconst (v := 1) hX dX10_leave_15 (by decide) ?_
      refine sX10_87 hX ⟨Nat.le_of_ble_eq_true rfl, Nat.le_of_ble_eq_true rfl⟩ (Nat.le_of_ble_eq_true rfl) dX10_leave_16 (c_inI_f (by rw [L0, show (1 : Int64).toInt = 1 by decide]; omega)) ?_
      refine g_if_ne (tgt := 25) hX dX10_leave_19 (by decide) (fun h9 => absurd (rfl) h9) (fun _ => ?_)
      refine g_ldc hX ccX10_97 dX10_leave_22 ?_
      refine g_iret (st := []) hX hE rfl dX10_leave_24 (⟨_, rfl, rfl, hR.thrown⟩)
  obtain ⟨j, hj, rfl⟩ := h2
  obtain ⟨o1, o2⟩ := hR.2.2.2.2.1
  refine ⟨S.1 55 p, fun S1 => S1 = pI S 55 p (nI j), ?_, ?_⟩
  · refine oX9_leave (fun X hX hE => ?_)
    refine g_iload_n (i := 1) hX dX9_leave_0 rfl rfl ?_
    refine g_iconst hX dX9_leave_1 ic4 ?_
    refine sX9_96 hX ⟨Nat.le_of_ble_eq_true rfl, Nat.le_of_ble_eq_true rfl⟩ (Nat.le_of_ble_eq_true rfl) dX9_leave_2 (isB_t (n := 4) hp (by decide)) ?_
    refine g_if_eq (tgt := 16) hX dX9_leave_5 (by decide) (fun h9 => absurd h9 ((by decide))) (fun _ => ?_)
    refine g_iload_n (i := 2) hX dX9_leave_8 rfl rfl ?_
    refine g_iconst hX dX9_leave_9 ic2 ?_
    refine sX9_96 hX ⟨Nat.le_of_ble_eq_true rfl, Nat.le_of_ble_eq_true rfl⟩ (Nat.le_of_ble_eq_true rfl) dX9_leave_10 (isB_t (n := 2) hj (by decide)) ?_
    refine g_if_ne (tgt := 19) hX dX9_leave_13 (by decide) (fun _ => ?_) (fun h9 => absurd h9 ((by decide)))
    refine leaveV hX hp hj (by rw [(o1 p hp).1]; exact (o1 p hp).2) ?_
    refine g_iload_n (i := 3) hX dX9_leave_56 rfl rfl ?_
    refine g_iret (st := []) hX hE rfl dX9_leave_57 (⟨_, rfl, rfl, rfl⟩)
  · rintro S1 rfl
    refine oX10_leave (fun X hX hE => ?_)
    refine g_aload_n (i := 0) hX dX10_leave_0 rfl rfl ?_
    refine g_iconst hX dX10_leave_1 ic0 ?_
    refine pX10_78 hX dX10_leave_2 ?_
    refine g_iload_n (i := 1) hX dX10_leave_5 rfl rfl ?_
    refine sX10_202 hX ⟨Nat.le_of_ble_eq_true rfl, Nat.le_of_ble_eq_true rfl⟩ (Nat.le_of_ble_eq_true rfl) dX10_leave_6 (c_isPart_t hp) ?_
    refine g_if_eq (tgt := 22) hX dX10_leave_9 (by decide) (fun h9 => absurd h9 ((by decide))) (fun _ => ?_)
    refine g_iload_n (i := 2) hX dX10_leave_12 rfl rfl ?_
    refine g_i2l hX dX10_leave_13 ?_
    refine g_lconst (v := 0) hX dX10_leave_14 (by decide) ?_
    refine g_lconst (v := 1) hX dX10_leave_15 (by decide) ?_
    refine sX10_87 hX ⟨Nat.le_of_ble_eq_true rfl, Nat.le_of_ble_eq_true rfl⟩ (Nat.le_of_ble_eq_true rfl) dX10_leave_16 (c_inI_t (by rw [nI_toInt (by omega), L0]; omega) (by rw [nI_toInt (by omega), show (1 : Int64).toInt = 1 by decide]; omega)) ?_
    refine g_if_ne (tgt := 25) hX dX10_leave_19 (by decide) (fun _ => ?_) (fun h9 => absurd h9 ((by decide)))
    refine leaveR hX hp hj (show S.1 77 p = 0 ∨ S.1 77 p = 1 from (o1 p hp).2) ?_
    refine g_iload_n (i := 3) hX dX10_leave_56 rfl rfl ?_
    refine g_iret (st := []) hX hE rfl dX10_leave_57 (⟨_, rfl, (o1 p hp).1.symm, ?_⟩)
    generalize hS2 : pI (pI (pI S 55 p (nI j)) 67 0 0) 77 p (nI j) = S2
    have hF : Fq [55, 77] [(67, 0)] S S2 := by
      rw [← hS2]
      exact ((Fq.rf.R (by decide)).I (by decide)).R (by decide)
    have hO : OutRel S2 := by
      rw [← hS2]
      refine ⟨fun q hq => ?_, o2⟩
      show upd (S.1 55) p (nI j) q = upd (S.1 77) p (nI j) q ∧ (upd (S.1 77) p (nI j) q = 0 ∨ upd (S.1 77) p (nI j) q = 1)
      by_cases e : q = p
      · subst e
        rw [upd_self, upd_self]
        refine ⟨rfl, ?_⟩
        rcases (by omega : j = 0 ∨ j = 1) with rfl | rfl
        · exact Or.inl rfl
        · exact Or.inr rfl
      · rw [upd_ne _ _ e, upd_ne _ _ e]
        exact o1 q hq
    obtain ⟨r1, r2, r3, r4, r5, r6, r7, r8, r9⟩ := hR
    exact ⟨r1.q hF (by decide), r2.q hF (by decide), r3.q hF (by decide), r4.q hF (by decide), hO, r6.q hF (by decide), r7.q hF (by decide), r8.q hF (by decide), r9.q hF (by decide)⟩
