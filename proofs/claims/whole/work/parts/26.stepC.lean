def zfn (f : Nat → Int32) (s i : Nat) : Nat → Int32 := fun j => if 60 * s ≤ j ∧ j < 60 * s + i then 0 else f j
theorem zfn_step (S : St) (f : Nat → Int32) (s i : Nat) : pI (pR S 70 (zfn f s i)) 70 (60 * s + i) 0 = pR S 70 (zfn f s (i + 1)) := by
  show pR (pR S 70 _) 70 (upd ((pR S 70 _).1 70) (60 * s + i) 0) = _
  rw [pR_self, pR_pR]
  congr 1
  funext j
  by_cases h : j = 60 * s + i
  · subst h; rw [upd_self]; simp [zfn]
  · rw [upd_ne _ _ h]
    unfold zfn
    by_cases h1 : 60 * s ≤ j ∧ j < 60 * s + i
    · rw [if_pos h1, if_pos (by omega)]
    · rw [if_neg h1, if_neg (by omega)]
theorem step_sheet {Γ : GG} (x1 x2 x3 : Int32) : Step (fun S P => kX9_sheet Γ [.ref (Γ.1 48), .int x1, .int x2, .int x3] S P) (fun S P => kX10_sheet Γ [.ref (Γ.1 67), .int x1, .int x2, .int x3] S P) := by
  intro S hR
  by_cases h1 : inB x1 8
  case neg =>
    refine ⟨-1000001, fun S1 => S1 = S, ?_, ?_⟩
    · refine oX9_sheet (fun X hX hE => ?_)
      refine g_iload_n (i := 1) hX dX9_sheet_0 rfl rfl ?_
      refine g_bipush hX dX9_sheet_1 bp8 ?_
      refine sX9_96 hX ⟨Nat.le_of_ble_eq_true rfl, Nat.le_of_ble_eq_true rfl⟩ (Nat.le_of_ble_eq_true rfl) dX9_sheet_3 (isB_f (by decide) h1) ?_
      refine g_if_eq (tgt := 23) hX dX9_sheet_6 (by decide) (fun _ => ?_) (fun h9 => absurd (rfl) h9)
      refine g_ldc hX ccX9_100 dX9_sheet_23 ?_
      refine g_iret (st := []) hX hE rfl dX9_sheet_25 (⟨_, rfl, rfl, rfl⟩)
    · rintro S1 rfl
      refine oX10_sheet (fun X hX hE => ?_)
      refine g_aload_n (i := 0) hX dX10_sheet_0 rfl rfl ?_
      refine g_iconst hX dX10_sheet_1 ic0 ?_
      refine pX10_78 hX dX10_sheet_2 ?_
      refine g_iload_n (i := 1) hX dX10_sheet_5 rfl rfl ?_
      refine sX10_91 hX ⟨Nat.le_of_ble_eq_true rfl, Nat.le_of_ble_eq_true rfl⟩ (Nat.le_of_ble_eq_true rfl) dX10_sheet_6 (c_isSheet_f h1) ?_
      refine g_if_eq (tgt := 30) hX dX10_sheet_9 (by decide) (fun _ => ?_) (fun h9 => absurd (rfl) h9)
      refine g_ldc hX ccX10_97 dX10_sheet_30 ?_
      refine g_iret (st := []) hX hE rfl dX10_sheet_32 (⟨_, rfl, rfl, hR.thrown⟩)
  obtain ⟨s, hs, rfl⟩ := h1
  by_cases h2 : inB x2 3
  case neg =>
    refine ⟨-1000001, fun S1 => S1 = S, ?_, ?_⟩
    · refine oX9_sheet (fun X hX hE => ?_)
      refine g_iload_n (i := 1) hX dX9_sheet_0 rfl rfl ?_
      refine g_bipush hX dX9_sheet_1 bp8 ?_
      refine sX9_96 hX ⟨Nat.le_of_ble_eq_true rfl, Nat.le_of_ble_eq_true rfl⟩ (Nat.le_of_ble_eq_true rfl) dX9_sheet_3 (isB_t hs (by decide)) ?_
      refine g_if_eq (tgt := 23) hX dX9_sheet_6 (by decide) (fun h9 => absurd h9 ((by decide))) (fun _ => ?_)
      refine g_iload_n (i := 2) hX dX9_sheet_9 rfl rfl ?_
      refine g_iconst hX dX9_sheet_10 ic3 ?_
      refine sX9_96 hX ⟨Nat.le_of_ble_eq_true rfl, Nat.le_of_ble_eq_true rfl⟩ (Nat.le_of_ble_eq_true rfl) dX9_sheet_11 (isB_f (n := 3) (by decide) h2) ?_
      refine g_if_eq (tgt := 23) hX dX9_sheet_14 (by decide) (fun _ => ?_) (fun h9 => absurd (rfl) h9)
      refine g_ldc hX ccX9_100 dX9_sheet_23 ?_
      refine g_iret (st := []) hX hE rfl dX9_sheet_25 (⟨_, rfl, rfl, rfl⟩)
    · rintro S1 rfl
      refine oX10_sheet (fun X hX hE => ?_)
      rw [inB_iff (by decide)] at h2
      refine g_aload_n (i := 0) hX dX10_sheet_0 rfl rfl ?_
      refine g_iconst hX dX10_sheet_1 ic0 ?_
      refine pX10_78 hX dX10_sheet_2 ?_
      refine g_iload_n (i := 1) hX dX10_sheet_5 rfl rfl ?_
      refine sX10_91 hX ⟨Nat.le_of_ble_eq_true rfl, Nat.le_of_ble_eq_true rfl⟩ (Nat.le_of_ble_eq_true rfl) dX10_sheet_6 (c_isSheet_t hs) ?_
      refine g_if_eq (tgt := 30) hX dX10_sheet_9 (by decide) (fun h9 => absurd h9 ((by decide))) (fun _ => ?_)
      refine g_iload_n (i := 2) hX dX10_sheet_12 rfl rfl ?_
      refine g_i2l hX dX10_sheet_13 ?_
      refine g_lconst (v := 0) hX dX10_sheet_14 (by decide) ?_
      refine g_ldc2_w hX ccX10_95 dX10_sheet_15 ?_
      refine sX10_87 hX ⟨Nat.le_of_ble_eq_true rfl, Nat.le_of_ble_eq_true rfl⟩ (Nat.le_of_ble_eq_true rfl) dX10_sheet_18 (c_inI_f (by rw [L0, show (2 : Int64).toInt = 2 by decide]; omega)) ?_
      refine g_if_eq (tgt := 30) hX dX10_sheet_21 (by decide) (fun _ => ?_) (fun h9 => absurd (rfl) h9)
      refine g_ldc hX ccX10_97 dX10_sheet_30 ?_
      refine g_iret (st := []) hX hE rfl dX10_sheet_32 (⟨_, rfl, rfl, hR.thrown⟩)
  obtain ⟨l, hl, rfl⟩ := h2
  by_cases h3 : x3 ≤ 60
  case neg =>
    refine ⟨-1000001, fun S1 => S1 = S, ?_, ?_⟩
    · refine oX9_sheet (fun X hX hE => ?_)
      refine g_iload_n (i := 1) hX dX9_sheet_0 rfl rfl ?_
      refine g_bipush hX dX9_sheet_1 bp8 ?_
      refine sX9_96 hX ⟨Nat.le_of_ble_eq_true rfl, Nat.le_of_ble_eq_true rfl⟩ (Nat.le_of_ble_eq_true rfl) dX9_sheet_3 (isB_t hs (by decide)) ?_
      refine g_if_eq (tgt := 23) hX dX9_sheet_6 (by decide) (fun h9 => absurd h9 ((by decide))) (fun _ => ?_)
      refine g_iload_n (i := 2) hX dX9_sheet_9 rfl rfl ?_
      refine g_iconst hX dX9_sheet_10 ic3 ?_
      refine sX9_96 hX ⟨Nat.le_of_ble_eq_true rfl, Nat.le_of_ble_eq_true rfl⟩ (Nat.le_of_ble_eq_true rfl) dX9_sheet_11 (isB_t (n := 3) hl (by decide)) ?_
      refine g_if_eq (tgt := 23) hX dX9_sheet_14 (by decide) (fun h9 => absurd h9 ((by decide))) (fun _ => ?_)
      refine g_iload_n (i := 3) hX dX9_sheet_17 rfl rfl ?_
      refine g_bipush hX dX9_sheet_18 bp60 ?_
      refine g_icmp_le (tgt := 26) hX dX9_sheet_20 (by decide) (fun h9 => absurd h9 (h3)) (fun _ => ?_)
      refine g_ldc hX ccX9_100 dX9_sheet_23 ?_
      refine g_iret (st := []) hX hE rfl dX9_sheet_25 (⟨_, rfl, rfl, rfl⟩)
    · rintro S1 rfl
      refine oX10_sheet (fun X hX hE => ?_)
      refine g_aload_n (i := 0) hX dX10_sheet_0 rfl rfl ?_
      refine g_iconst hX dX10_sheet_1 ic0 ?_
      refine pX10_78 hX dX10_sheet_2 ?_
      refine g_iload_n (i := 1) hX dX10_sheet_5 rfl rfl ?_
      refine sX10_91 hX ⟨Nat.le_of_ble_eq_true rfl, Nat.le_of_ble_eq_true rfl⟩ (Nat.le_of_ble_eq_true rfl) dX10_sheet_6 (c_isSheet_t hs) ?_
      refine g_if_eq (tgt := 30) hX dX10_sheet_9 (by decide) (fun h9 => absurd h9 ((by decide))) (fun _ => ?_)
      refine g_iload_n (i := 2) hX dX10_sheet_12 rfl rfl ?_
      refine g_i2l hX dX10_sheet_13 ?_
      refine g_lconst (v := 0) hX dX10_sheet_14 (by decide) ?_
      refine g_ldc2_w hX ccX10_95 dX10_sheet_15 ?_
      refine sX10_87 hX ⟨Nat.le_of_ble_eq_true rfl, Nat.le_of_ble_eq_true rfl⟩ (Nat.le_of_ble_eq_true rfl) dX10_sheet_18 (c_inI_t (by rw [nI_toInt (by omega), L0]; omega) (by rw [nI_toInt (by omega), show (2 : Int64).toInt = 2 by decide]; omega)) ?_
      refine g_if_eq (tgt := 30) hX dX10_sheet_21 (by decide) (fun h9 => absurd h9 ((by decide))) (fun _ => ?_)
      refine g_iload_n (i := 3) hX dX10_sheet_24 rfl rfl ?_
      refine g_bipush hX dX10_sheet_25 bp60 ?_
      refine g_icmp_le (tgt := 33) hX dX10_sheet_27 (by decide) (fun h9 => absurd h9 (h3)) (fun _ => ?_)
      refine g_ldc hX ccX10_97 dX10_sheet_30 ?_
      refine g_iret (st := []) hX hE rfl dX10_sheet_32 (⟨_, rfl, rfl, hR.thrown⟩)
  by_cases h4 : 0 ≤ x3
  case neg =>
    refine ⟨-1000010 - 4, fun S1 => S1 = pI S 48 15 4, ?_, ?_⟩
    · refine oX9_sheet (fun X hX hE => ?_)
      refine g_iload_n (i := 1) hX dX9_sheet_0 rfl rfl ?_
      refine g_bipush hX dX9_sheet_1 bp8 ?_
      refine sX9_96 hX ⟨Nat.le_of_ble_eq_true rfl, Nat.le_of_ble_eq_true rfl⟩ (Nat.le_of_ble_eq_true rfl) dX9_sheet_3 (isB_t hs (by decide)) ?_
      refine g_if_eq (tgt := 23) hX dX9_sheet_6 (by decide) (fun h9 => absurd h9 ((by decide))) (fun _ => ?_)
      refine g_iload_n (i := 2) hX dX9_sheet_9 rfl rfl ?_
      refine g_iconst hX dX9_sheet_10 ic3 ?_
      refine sX9_96 hX ⟨Nat.le_of_ble_eq_true rfl, Nat.le_of_ble_eq_true rfl⟩ (Nat.le_of_ble_eq_true rfl) dX9_sheet_11 (isB_t (n := 3) hl (by decide)) ?_
      refine g_if_eq (tgt := 23) hX dX9_sheet_14 (by decide) (fun h9 => absurd h9 ((by decide))) (fun _ => ?_)
      refine g_iload_n (i := 3) hX dX9_sheet_17 rfl rfl ?_
      refine g_bipush hX dX9_sheet_18 bp60 ?_
      refine g_icmp_le (tgt := 26) hX dX9_sheet_20 (by decide) (fun _ => ?_) (fun h9 => absurd (h3) h9)
      refine g_iload_n (i := 3) hX dX9_sheet_26 rfl rfl ?_
      refine g_if_ge (tgt := 36) hX dX9_sheet_27 (by decide) (fun h9 => absurd h9 (h4)) (fun _ => ?_)
      refine g_aload_n (i := 0) hX dX9_sheet_30 rfl rfl ?_
      refine g_iconst hX dX9_sheet_31 ic4 ?_
      refine sX9_101 hX ⟨Nat.le_of_ble_eq_true rfl, Nat.le_of_ble_eq_true rfl⟩ (Nat.le_of_ble_eq_true rfl) dX9_sheet_32 (c_finding) ?_
      refine g_iret (st := []) hX hE rfl dX9_sheet_35 (⟨_, rfl, rfl, rfl⟩)
    · rintro S1 rfl
      refine oX10_sheet (fun X hX hE => ?_)
      refine g_aload_n (i := 0) hX dX10_sheet_0 rfl rfl ?_
      refine g_iconst hX dX10_sheet_1 ic0 ?_
      refine pX10_78 hX dX10_sheet_2 ?_
      refine g_iload_n (i := 1) hX dX10_sheet_5 rfl rfl ?_
      refine sX10_91 hX ⟨Nat.le_of_ble_eq_true rfl, Nat.le_of_ble_eq_true rfl⟩ (Nat.le_of_ble_eq_true rfl) dX10_sheet_6 (c_isSheet_t hs) ?_
      refine g_if_eq (tgt := 30) hX dX10_sheet_9 (by decide) (fun h9 => absurd h9 ((by decide))) (fun _ => ?_)
      refine g_iload_n (i := 2) hX dX10_sheet_12 rfl rfl ?_
      refine g_i2l hX dX10_sheet_13 ?_
      refine g_lconst (v := 0) hX dX10_sheet_14 (by decide) ?_
      refine g_ldc2_w hX ccX10_95 dX10_sheet_15 ?_
      refine sX10_87 hX ⟨Nat.le_of_ble_eq_true rfl, Nat.le_of_ble_eq_true rfl⟩ (Nat.le_of_ble_eq_true rfl) dX10_sheet_18 (c_inI_t (by rw [nI_toInt (by omega), L0]; omega) (by rw [nI_toInt (by omega), show (2 : Int64).toInt = 2 by decide]; omega)) ?_
      refine g_if_eq (tgt := 30) hX dX10_sheet_21 (by decide) (fun h9 => absurd h9 ((by decide))) (fun _ => ?_)
      refine g_iload_n (i := 3) hX dX10_sheet_24 rfl rfl ?_
      refine g_bipush hX dX10_sheet_25 bp60 ?_
      refine g_icmp_le (tgt := 33) hX dX10_sheet_27 (by decide) (fun _ => ?_) (fun h9 => absurd (h3) h9)
      refine g_aload_n (i := 0) hX dX10_sheet_33 rfl rfl ?_
      refine g_iconst hX dX10_sheet_34 ic0 ?_
      refine pX10_81 hX dX10_sheet_35 ?_
      refine g_iload_n (i := 3) hX dX10_sheet_38 rfl rfl ?_
      refine g_if_ge (tgt := 48) hX dX10_sheet_39 (by decide) (fun h9 => absurd h9 (h4)) (fun _ => ?_)
      refine g_aload_n (i := 0) hX dX10_sheet_42 rfl rfl ?_
      refine g_iconst hX dX10_sheet_43 ic4 ?_
      refine sX10_98 hX ⟨Nat.le_of_ble_eq_true rfl, Nat.le_of_ble_eq_true rfl⟩ (Nat.le_of_ble_eq_true rfl) dX10_sheet_44 (c_findingR) ?_
      refine g_iret (st := []) hX hE rfl dX10_sheet_47 (⟨_, rfl, rfl, hR.find (x := 4) ((((Fq.rf.I (by decide)).I (by decide)).I (by decide)).I (by decide)) rfl rfl⟩)
  obtain ⟨n, hn, rfl⟩ : ∃ n, n ≤ 60 ∧ x3 = nI n := by
    rw [i_le, t0] at h4
    rw [i_le, show (60 : Int32).toInt = 60 by decide] at h3
    exact ⟨x3.toInt.toNat, by omega, nI_nat h4⟩
  have hb := isheet s hs
  refine ⟨nI n, fun S1 => S1 = pI (pR (pI (pI (pI S (2 * s) 1 0) (2 * s) 2 (nI l)) (2 * s) 3 (nI n)) (2 * s + 1) (fun j => if j < 60 then 0 else (pI (pI (pI S (2 * s) 1 0) (2 * s) 2 (nI l)) (2 * s) 3 (nI n)).1 (2 * s + 1) j)) 48 15 0, ?_, ?_⟩
  · refine oX9_sheet (fun X hX hE => ?_)
    refine g_iload_n (i := 1) hX dX9_sheet_0 rfl rfl ?_
    refine g_bipush hX dX9_sheet_1 bp8 ?_
    refine sX9_96 hX ⟨Nat.le_of_ble_eq_true rfl, Nat.le_of_ble_eq_true rfl⟩ (Nat.le_of_ble_eq_true rfl) dX9_sheet_3 (isB_t hs (by decide)) ?_
    refine g_if_eq (tgt := 23) hX dX9_sheet_6 (by decide) (fun h9 => absurd h9 ((by decide))) (fun _ => ?_)
    refine g_iload_n (i := 2) hX dX9_sheet_9 rfl rfl ?_
    refine g_iconst hX dX9_sheet_10 ic3 ?_
    refine sX9_96 hX ⟨Nat.le_of_ble_eq_true rfl, Nat.le_of_ble_eq_true rfl⟩ (Nat.le_of_ble_eq_true rfl) dX9_sheet_11 (isB_t (n := 3) hl (by decide)) ?_
    refine g_if_eq (tgt := 23) hX dX9_sheet_14 (by decide) (fun h9 => absurd h9 ((by decide))) (fun _ => ?_)
    refine g_iload_n (i := 3) hX dX9_sheet_17 rfl rfl ?_
    refine g_bipush hX dX9_sheet_18 bp60 ?_
    refine g_icmp_le (tgt := 26) hX dX9_sheet_20 (by decide) (fun _ => ?_) (fun h9 => absurd (h3) h9)
    refine g_iload_n (i := 3) hX dX9_sheet_26 rfl rfl ?_
    refine g_if_ge (tgt := 36) hX dX9_sheet_27 (by decide) (fun _ => ?_) (fun h9 => absurd (h4) h9)
    refine g_aload_n (i := 0) hX dX9_sheet_36 rfl rfl ?_
    refine fX9_11 hX dX9_sheet_37 ?_
    refine g_iload_n (i := 1) hX dX9_sheet_40 rfl rfl ?_
    refine g_aaloadN hX (show 49 < NC by decide) (Or.inl rfl) (show lay 49 = (2, 8, [0, 2, 4, 6, 8, 10, 12, 14]) by decide) rfl (hs) (by decide) (shh s hs) dX9_sheet_41 ?_
    refine g_iload_n (i := 2) hX dX9_sheet_42 rfl rfl ?_
    refine g_iload_n (i := 3) hX dX9_sheet_43 rfl rfl ?_
    refine sX9_105 hX hb ⟨Nat.le_of_ble_eq_true rfl, Nat.le_of_ble_eq_true rfl⟩ (Nat.le_of_ble_eq_true rfl) dX9_sheet_44 (c_lay hb) ?_
    refine g_aload_n (i := 0) hX dX9_sheet_47 rfl rfl ?_
    refine g_iload_n (i := 3) hX dX9_sheet_48 rfl rfl ?_
    refine sX9_109 hX ⟨Nat.le_of_ble_eq_true rfl, Nat.le_of_ble_eq_true rfl⟩ (Nat.le_of_ble_eq_true rfl) dX9_sheet_49 (c_noFinding) ?_
    refine g_iret (st := []) hX hE rfl dX9_sheet_52 (⟨_, rfl, rfl, rfl⟩)
  · intro S1 hS1
    have eH : ∀ k, k ≠ 48 → k ≠ 2 * s → k ≠ 2 * s + 1 → S1.1 k = S.1 k := fun k q1 q2 q3 => by rw [hS1, pR_ne _ _ q1, pR_ne _ _ q3, lowR q2 q2 q2]
    have e48 : S1.1 48 15 = 0 := by rw [hS1]; rfl
    have hF1 : Fq shK shO S S1 := by rw [hS1]; exact ((((Fq.rf.R (shK_lt (by omega))).R (shK_lt (by omega))).R (shK_lt (by omega))).R (shK_lt (by omega))).I (by decide)
    have eA : S1.1 (2 * s) = upd (upd (upd (S.1 (2 * s)) 1 0) 2 (nI l)) 3 (nI n) := by rw [hS1, pR_ne _ _ (by omega), pR_ne _ _ (by omega), pR_self, pR_self, pR_self]
    have eB : ∀ j, j < 60 → S1.1 (2 * s + 1) j = 0 := fun j hj => by rw [hS1, pR_ne _ _ (by omega), pR_self, if_pos hj]
    clear hS1
    refine oX10_sheet (fun X hX hE => ?_)
    have loop : ∀ d i, i + d = 60 → G Γ X (pR (pI (pI (pI (pI S1 67 0 0) 67 1 0) 68 s (nI l)) 69 s (nI n)) 70 (zfn (S1.1 70) s i)) 65 [(0, .ref (Γ.1 67)), (1, .int (nI s)), (2, .int (nI l)), (3, .int (nI n)), (4, .int (nI i))] [] := by
      intro d
      induction d with
      | zero =>
        intro i hi
        obtain rfl : i = 60 := by omega
        refine g_iload hX dX10_sheet_65 rfl ?_
        refine g_bipush hX dX10_sheet_67 bp60 ?_
        refine g_icmp_ge (tgt := 91) hX dX10_sheet_69 (by decide) (fun _ => ?_) (fun h9 => absurd (Int32.le_refl _) h9)
        refine g_iload_n (i := 3) hX dX10_sheet_91 rfl rfl ?_
        refine g_iret (st := []) hX hE rfl dX10_sheet_92 (⟨_, rfl, rfl, ?_⟩)
        refine hR.sheet (x := 0) (((((hF1.I (by decide)).I (by decide)).R (by decide)).R (by decide)).R (by decide)) ?_ e48 rfl
        refine hR.1.upd s ⟨n, hn, ?_, ?_, ?_, Or.inr ⟨?_, l, hl, ?_, ?_⟩⟩ ?_
        · rw [pR_ne _ _ (by omega), pR_ne _ _ (by omega), lowR (by omega) (by omega) (by omega), eA, upd_self]
        · show upd _ s (nI n) s = nI n
          exact upd_self _ _ _
        · intro j hj
          rw [pR_ne _ _ (by omega), pR_ne _ _ (by omega), lowR (by omega) (by omega) (by omega), eB j hj, pR_self]
          unfold zfn
          rw [if_pos (by omega)]
        · rw [pR_ne _ _ (by omega), pR_ne _ _ (by omega), lowR (by omega) (by omega) (by omega), eA, upd_ne _ _ (by decide), upd_ne _ _ (by decide), upd_self]
        · rw [pR_ne _ _ (by omega), pR_ne _ _ (by omega), lowR (by omega) (by omega) (by omega), eA, upd_ne _ _ (by decide), upd_self]
        · show upd _ s (nI l) s = nI l
          exact upd_self _ _ _
        · intro t ht hts
          refine ⟨?_, ?_, ?_, ?_, ?_⟩
          · rw [pR_ne _ _ (by omega), pR_ne _ _ (by omega), lowR (by omega) (by omega) (by omega), eH _ (by omega) (by omega) (by omega)]
          · rw [pR_ne _ _ (by omega), pR_ne _ _ (by omega), lowR (by omega) (by omega) (by omega), eH _ (by omega) (by omega) (by omega)]
          · show upd (S1.1 68) s (nI l) t = _
            rw [upd_ne _ _ hts, eH _ (by omega) (by omega) (by omega)]
          · show upd (S1.1 69) s (nI n) t = _
            rw [upd_ne _ _ hts, eH _ (by omega) (by omega) (by omega)]
          · intro j hj
            rw [pR_self]
            unfold zfn
            rw [if_neg (by omega), eH _ (by omega) (by omega) (by omega)]
      | succ d ih =>
        intro i hi
        refine g_iload hX dX10_sheet_65 rfl ?_
        refine g_bipush hX dX10_sheet_67 bp60 ?_
        refine g_icmp_ge (tgt := 91) hX dX10_sheet_69 (by decide) (fun h9 => absurd h9 (nI_ge (show i < 60 by omega) (by decide))) (fun _ => ?_)
        refine g_aload_n (i := 0) hX dX10_sheet_72 rfl rfl ?_
        refine fX10_16 hX dX10_sheet_73 ?_
        refine g_bipush hX dX10_sheet_76 bp60 ?_
        refine g_iload_n (i := 1) hX dX10_sheet_78 rfl rfl ?_
        refine g_imul hX dX10_sheet_79 ?_
        refine g_iload hX dX10_sheet_80 rfl ?_
        refine g_iadd hX dX10_sheet_82 ?_
        refine g_iconst hX dX10_sheet_83 ic0 ?_
        refine g_iastoreN hX (ia70) (nI_60 s i) (items_in hs (by omega)) (by first | decide | assumption | omega) dX10_sheet_84 ?_
        refine g_iinc hX dX10_sheet_85 rfl ic1 (by decide) rfl ?_
        refine g_goto (tgt := 65) hX dX10_sheet_88 (by decide) ?_
        rw [nI_1, zfn_step]
        exact ih (i + 1) (by omega)
    have h0 := loop 60 0 (by omega)
    rw [show zfn (S1.1 70) s 0 = S1.1 70 from funext fun j => if_neg (by omega)] at h0
    rw [show pR (pI (pI (pI (pI S1 67 0 0) 67 1 0) 68 s (nI l)) 69 s (nI n)) 70 (S1.1 70) = pI (pI (pI (pI S1 67 0 0) 67 1 0) 68 s (nI l)) 69 s (nI n) from pR_eta (pI (pI (pI (pI S1 67 0 0) 67 1 0) 68 s (nI l)) 69 s (nI n)) 70] at h0
    refine g_aload_n (i := 0) hX dX10_sheet_0 rfl rfl ?_
    refine g_iconst hX dX10_sheet_1 ic0 ?_
    refine pX10_78 hX dX10_sheet_2 ?_
    refine g_iload_n (i := 1) hX dX10_sheet_5 rfl rfl ?_
    refine sX10_91 hX ⟨Nat.le_of_ble_eq_true rfl, Nat.le_of_ble_eq_true rfl⟩ (Nat.le_of_ble_eq_true rfl) dX10_sheet_6 (c_isSheet_t hs) ?_
    refine g_if_eq (tgt := 30) hX dX10_sheet_9 (by decide) (fun h9 => absurd h9 ((by decide))) (fun _ => ?_)
    refine g_iload_n (i := 2) hX dX10_sheet_12 rfl rfl ?_
    refine g_i2l hX dX10_sheet_13 ?_
    refine g_lconst (v := 0) hX dX10_sheet_14 (by decide) ?_
    refine g_ldc2_w hX ccX10_95 dX10_sheet_15 ?_
    refine sX10_87 hX ⟨Nat.le_of_ble_eq_true rfl, Nat.le_of_ble_eq_true rfl⟩ (Nat.le_of_ble_eq_true rfl) dX10_sheet_18 (c_inI_t (by rw [nI_toInt (by omega), L0]; omega) (by rw [nI_toInt (by omega), show (2 : Int64).toInt = 2 by decide]; omega)) ?_
    refine g_if_eq (tgt := 30) hX dX10_sheet_21 (by decide) (fun h9 => absurd h9 ((by decide))) (fun _ => ?_)
    refine g_iload_n (i := 3) hX dX10_sheet_24 rfl rfl ?_
    refine g_bipush hX dX10_sheet_25 bp60 ?_
    refine g_icmp_le (tgt := 33) hX dX10_sheet_27 (by decide) (fun _ => ?_) (fun h9 => absurd (h3) h9)
    refine g_aload_n (i := 0) hX dX10_sheet_33 rfl rfl ?_
    refine g_iconst hX dX10_sheet_34 ic0 ?_
    refine pX10_81 hX dX10_sheet_35 ?_
    refine g_iload_n (i := 3) hX dX10_sheet_38 rfl rfl ?_
    refine g_if_ge (tgt := 48) hX dX10_sheet_39 (by decide) (fun _ => ?_) (fun h9 => absurd (h4) h9)
    refine g_aload_n (i := 0) hX dX10_sheet_48 rfl rfl ?_
    refine fX10_7 hX dX10_sheet_49 ?_
    refine g_iload_n (i := 1) hX dX10_sheet_52 rfl rfl ?_
    refine g_iload_n (i := 2) hX dX10_sheet_53 rfl rfl ?_
    refine g_iastoreN hX (ia68) rfl (hs) (by first | decide | assumption | omega) dX10_sheet_54 ?_
    refine g_aload_n (i := 0) hX dX10_sheet_55 rfl rfl ?_
    refine fX10_13 hX dX10_sheet_56 ?_
    refine g_iload_n (i := 1) hX dX10_sheet_59 rfl rfl ?_
    refine g_iload_n (i := 3) hX dX10_sheet_60 rfl rfl ?_
    refine g_iastoreN hX (ia69) rfl (hs) (by first | decide | assumption | omega) dX10_sheet_61 ?_
    refine g_iconst hX dX10_sheet_62 ic0 ?_
    refine g_istore hX dX10_sheet_63 (by decide) rfl ?_
    exact h0
