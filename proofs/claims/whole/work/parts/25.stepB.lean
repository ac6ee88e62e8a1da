theorem items_in {s i : Nat} (hs : s < 8) (hi : i < 60) : 60 * s + i < 480 := by omega
theorem nI_60 (s i : Nat) : (60 : Int32) * nI s + nI i = nI (60 * s + i) := by
  rw [show (60 : Int32) = nI 60 from rfl, nI_mul, nI_add2]
/-- the class's cells after a change of sheet s alone -/
theorem sh_other {S S1 : St} {s : Nat} (hF : ∀ k, k < 16 → k ≠ 2 * s → k ≠ 2 * s + 1 → S1.1 k = S.1 k) {t : Nat} (ht : t < 8) (hts : t ≠ s) : S1.1 (2 * t) = S.1 (2 * t) ∧ S1.1 (2 * t + 1) = S.1 (2 * t + 1) :=
  ⟨hF _ (by omega) (by omega) (by omega), hF _ (by omega) (by omega) (by omega)⟩
theorem step_set {Γ : GG} (x1 x2 x3 : Int32) : Step (fun S P => kX9_set Γ [.ref (Γ.1 48), .int x1, .int x2, .int x3] S P) (fun S P => kX10_set Γ [.ref (Γ.1 67), .int x1, .int x2, .int x3] S P) := by
  intro S hR
  by_cases h1 : inB x1 8
  case neg =>
    refine ⟨-1000001, fun S1 => S1 = S, ?_, ?_⟩
    · refine oX9_set (fun X hX hE => ?_)
      refine g_iload_n (i := 1) hX dX9_set_0 rfl rfl ?_
      refine g_bipush hX dX9_set_1 bp8 ?_
      refine sX9_96 hX ⟨Nat.le_of_ble_eq_true rfl, Nat.le_of_ble_eq_true rfl⟩ (Nat.le_of_ble_eq_true rfl) dX9_set_3 (isB_f (by decide) h1) ?_
      refine g_if_ne (tgt := 12) hX dX9_set_6 (by decide) (fun h9 => absurd (rfl) h9) (fun _ => ?_)
      refine g_ldc hX ccX9_100 dX9_set_9 ?_
      refine g_iret (st := []) hX hE rfl dX9_set_11 (⟨_, rfl, rfl, rfl⟩)
    · rintro S1 rfl
      refine oX10_set (fun X hX hE => ?_)
      refine g_aload_n (i := 0) hX dX10_set_0 rfl rfl ?_
      refine g_iconst hX dX10_set_1 ic0 ?_
      refine pX10_78 hX dX10_set_2 ?_
      refine g_iload_n (i := 1) hX dX10_set_5 rfl rfl ?_
      refine sX10_91 hX ⟨Nat.le_of_ble_eq_true rfl, Nat.le_of_ble_eq_true rfl⟩ (Nat.le_of_ble_eq_true rfl) dX10_set_6 (c_isSheet_f h1) ?_
      refine g_if_ne (tgt := 15) hX dX10_set_9 (by decide) (fun h9 => absurd (rfl) h9) (fun _ => ?_)
      refine g_ldc hX ccX10_97 dX10_set_12 ?_
      refine g_iret (st := []) hX hE rfl dX10_set_14 (⟨_, rfl, rfl, hR.thrown⟩)
  obtain ⟨s, hs, rfl⟩ := h1
  obtain ⟨z, z1, z2, z3, z4, z5⟩ := hR.1 s hs
  have hb := isheet s hs
  rcases z5 with ⟨m1, m2⟩ | ⟨m1, l, l1, l2, l3⟩
  · refine ⟨-1000010 - 1, fun S1 => S1 = pI S 48 15 1, ?_, ?_⟩
    · refine oX9_set (fun X hX hE => ?_)
      refine g_iload_n (i := 1) hX dX9_set_0 rfl rfl ?_
      refine g_bipush hX dX9_set_1 bp8 ?_
      refine sX9_96 hX ⟨Nat.le_of_ble_eq_true rfl, Nat.le_of_ble_eq_true rfl⟩ (Nat.le_of_ble_eq_true rfl) dX9_set_3 (isB_t hs (by decide)) ?_
      refine g_if_ne (tgt := 12) hX dX9_set_6 (by decide) (fun _ => ?_) (fun h9 => absurd h9 ((by decide)))
      refine g_aload_n (i := 0) hX dX9_set_12 rfl rfl ?_
      refine fX9_11 hX dX9_set_13 ?_
      refine g_iload_n (i := 1) hX dX9_set_16 rfl rfl ?_
      refine g_aaloadN hX (show 49 < NC by decide) (Or.inl rfl) (show lay 49 = (2, 8, [0, 2, 4, 6, 8, 10, 12, 14]) by decide) rfl (hs) (by decide) (shh s hs) dX9_set_17 ?_
      refine g_astore hX dX9_set_18 (by decide) rfl ?_
      refine g_aload hX dX9_set_20 rfl ?_
      refine fX9_112 hX hb dX9_set_22 ?_
      refine g_if_eq (tgt := 34) hX dX9_set_25 (by decide) (fun h9 => absurd h9 ((by rw [m1]; decide))) (fun _ => ?_)
      refine g_aload_n (i := 0) hX dX9_set_28 rfl rfl ?_
      refine g_iconst hX dX9_set_29 ic1 ?_
      refine sX9_101 hX ⟨Nat.le_of_ble_eq_true rfl, Nat.le_of_ble_eq_true rfl⟩ (Nat.le_of_ble_eq_true rfl) dX9_set_30 (c_finding) ?_
      refine g_iret (st := []) hX hE rfl dX9_set_33 (⟨_, rfl, rfl, rfl⟩)
    · rintro S1 rfl
      refine oX10_set (fun X hX hE => ?_)
      refine g_aload_n (i := 0) hX dX10_set_0 rfl rfl ?_
      refine g_iconst hX dX10_set_1 ic0 ?_
      refine pX10_78 hX dX10_set_2 ?_
      refine g_iload_n (i := 1) hX dX10_set_5 rfl rfl ?_
      refine sX10_91 hX ⟨Nat.le_of_ble_eq_true rfl, Nat.le_of_ble_eq_true rfl⟩ (Nat.le_of_ble_eq_true rfl) dX10_set_6 (c_isSheet_t hs) ?_
      refine g_if_ne (tgt := 15) hX dX10_set_9 (by decide) (fun _ => ?_) (fun h9 => absurd h9 ((by decide)))
      refine g_aload_n (i := 0) hX dX10_set_15 rfl rfl ?_
      refine g_iconst hX dX10_set_16 ic0 ?_
      refine pX10_81 hX dX10_set_17 ?_
      refine g_aload_n (i := 0) hX dX10_set_20 rfl rfl ?_
      refine fX10_7 hX dX10_set_21 ?_
      refine g_iload_n (i := 1) hX dX10_set_24 rfl rfl ?_
      refine g_ialoadN hX (ia68) rfl (hs) (by first | decide | assumption | omega) dX10_set_25 ?_
      refine g_if_ge (tgt := 35) hX dX10_set_26 (by decide) (fun h9 => absurd h9 ((show ¬ 0 ≤ S.1 68 s by rw [m2]; decide))) (fun _ => ?_)
      refine g_aload_n (i := 0) hX dX10_set_29 rfl rfl ?_
      refine g_iconst hX dX10_set_30 ic1 ?_
      refine sX10_98 hX ⟨Nat.le_of_ble_eq_true rfl, Nat.le_of_ble_eq_true rfl⟩ (Nat.le_of_ble_eq_true rfl) dX10_set_31 (c_findingR) ?_
      refine g_iret (st := []) hX hE rfl dX10_set_34 (⟨_, rfl, rfl, hR.find (x := 1) ((((Fq.rf.I (by decide)).I (by decide)).I (by decide)).I (by decide)) rfl rfl⟩)
  by_cases h2 : inB x2 z
  case neg =>
    refine ⟨-1000010 - 2, fun S1 => S1 = pI S 48 15 2, ?_, ?_⟩
    · refine oX9_set (fun X hX hE => ?_)
      refine g_iload_n (i := 1) hX dX9_set_0 rfl rfl ?_
      refine g_bipush hX dX9_set_1 bp8 ?_
      refine sX9_96 hX ⟨Nat.le_of_ble_eq_true rfl, Nat.le_of_ble_eq_true rfl⟩ (Nat.le_of_ble_eq_true rfl) dX9_set_3 (isB_t hs (by decide)) ?_
      refine g_if_ne (tgt := 12) hX dX9_set_6 (by decide) (fun _ => ?_) (fun h9 => absurd h9 ((by decide)))
      refine g_aload_n (i := 0) hX dX9_set_12 rfl rfl ?_
      refine fX9_11 hX dX9_set_13 ?_
      refine g_iload_n (i := 1) hX dX9_set_16 rfl rfl ?_
      refine g_aaloadN hX (show 49 < NC by decide) (Or.inl rfl) (show lay 49 = (2, 8, [0, 2, 4, 6, 8, 10, 12, 14]) by decide) rfl (hs) (by decide) (shh s hs) dX9_set_17 ?_
      refine g_astore hX dX9_set_18 (by decide) rfl ?_
      refine g_aload hX dX9_set_20 rfl ?_
      refine fX9_112 hX hb dX9_set_22 ?_
      refine g_if_eq (tgt := 34) hX dX9_set_25 (by decide) (fun _ => ?_) (fun h9 => absurd (m1) h9)
      refine g_aload hX dX9_set_34 rfl ?_
      refine g_iload_n (i := 2) hX dX9_set_36 rfl rfl ?_
      refine g_iconst hX dX9_set_37 ic1 ?_
      refine sX9_115 hX hb ⟨Nat.le_of_ble_eq_true rfl, Nat.le_of_ble_eq_true rfl⟩ (Nat.le_of_ble_eq_true rfl) dX9_set_38 (c_hasPlaces_f hb z2 z1 (by rintro ⟨i, n, rfl, e, hn⟩; obtain rfl : n = 1 := (nI_inj (by decide) (by omega) (show nI 1 = nI n from e)).symm; exact h2 ⟨i, by omega, rfl⟩)) ?_
      refine g_if_ne (tgt := 50) hX dX9_set_41 (by decide) (fun h9 => absurd (rfl) h9) (fun _ => ?_)
      refine g_aload_n (i := 0) hX dX9_set_44 rfl rfl ?_
      refine g_iconst hX dX9_set_45 ic2 ?_
      refine sX9_101 hX ⟨Nat.le_of_ble_eq_true rfl, Nat.le_of_ble_eq_true rfl⟩ (Nat.le_of_ble_eq_true rfl) dX9_set_46 (c_finding) ?_
      refine g_iret (st := []) hX hE rfl dX9_set_49 (⟨_, rfl, rfl, rfl⟩)
    · rintro S1 rfl
      refine oX10_set (fun X hX hE => ?_)
      rw [inB_iff (by omega)] at h2
      refine g_aload_n (i := 0) hX dX10_set_0 rfl rfl ?_
      refine g_iconst hX dX10_set_1 ic0 ?_
      refine pX10_78 hX dX10_set_2 ?_
      refine g_iload_n (i := 1) hX dX10_set_5 rfl rfl ?_
      refine sX10_91 hX ⟨Nat.le_of_ble_eq_true rfl, Nat.le_of_ble_eq_true rfl⟩ (Nat.le_of_ble_eq_true rfl) dX10_set_6 (c_isSheet_t hs) ?_
      refine g_if_ne (tgt := 15) hX dX10_set_9 (by decide) (fun _ => ?_) (fun h9 => absurd h9 ((by decide)))
      refine g_aload_n (i := 0) hX dX10_set_15 rfl rfl ?_
      refine g_iconst hX dX10_set_16 ic0 ?_
      refine pX10_81 hX dX10_set_17 ?_
      refine g_aload_n (i := 0) hX dX10_set_20 rfl rfl ?_
      refine fX10_7 hX dX10_set_21 ?_
      refine g_iload_n (i := 1) hX dX10_set_24 rfl rfl ?_
      refine g_ialoadN hX (ia68) rfl (hs) (by first | decide | assumption | omega) dX10_set_25 ?_
      refine g_if_ge (tgt := 35) hX dX10_set_26 (by decide) (fun _ => ?_) (fun h9 => absurd ((show 0 ≤ S.1 68 s by rw [l3]; exact nI_pos' (by omega))) h9)
      refine g_iload_n (i := 2) hX dX10_set_35 rfl rfl ?_
      refine g_i2l hX dX10_set_36 ?_
      refine g_lconst (v := 0) hX dX10_set_37 (by decide) ?_
      refine g_aload_n (i := 0) hX dX10_set_38 rfl rfl ?_
      refine fX10_13 hX dX10_set_39 ?_
      refine g_iload_n (i := 1) hX dX10_set_42 rfl rfl ?_
      refine g_ialoadN hX (ia69) rfl (hs) (by first | decide | assumption | omega) dX10_set_43 ?_
      refine g_iconst hX dX10_set_44 ic1 ?_
      refine g_isub hX dX10_set_45 ?_
      refine g_i2l hX dX10_set_46 ?_
      refine sX10_87 hX ⟨Nat.le_of_ble_eq_true rfl, Nat.le_of_ble_eq_true rfl⟩ (Nat.le_of_ble_eq_true rfl) dX10_set_47 (c_inI_f (by rw [L0, l_i]; show ¬ (0 ≤ x2.toInt ∧ x2.toInt ≤ (S.1 69 s - 1).toInt); rw [z3, i_sub (by rw [nI_toInt (by omega), t1]; omega) (by rw [nI_toInt (by omega), t1]; omega), nI_toInt (by omega), t1]; omega)) ?_
      refine g_if_ne (tgt := 59) hX dX10_set_50 (by decide) (fun h9 => absurd (rfl) h9) (fun _ => ?_)
      refine g_aload_n (i := 0) hX dX10_set_53 rfl rfl ?_
      refine g_iconst hX dX10_set_54 ic2 ?_
      refine sX10_98 hX ⟨Nat.le_of_ble_eq_true rfl, Nat.le_of_ble_eq_true rfl⟩ (Nat.le_of_ble_eq_true rfl) dX10_set_55 (c_findingR) ?_
      refine g_iret (st := []) hX hE rfl dX10_set_58 (⟨_, rfl, rfl, hR.find (x := 2) ((((Fq.rf.I (by decide)).I (by decide)).I (by decide)).I (by decide)) rfl rfl⟩)
  obtain ⟨i, hi, rfl⟩ := h2
  refine ⟨cutv l x3, fun S1 => S1 = pI (pI S (2 * s + 1) i (cutv l x3)) 48 15 0, ?_, ?_⟩
  · refine oX9_set (fun X hX hE => ?_)
    refine g_iload_n (i := 1) hX dX9_set_0 rfl rfl ?_
    refine g_bipush hX dX9_set_1 bp8 ?_
    refine sX9_96 hX ⟨Nat.le_of_ble_eq_true rfl, Nat.le_of_ble_eq_true rfl⟩ (Nat.le_of_ble_eq_true rfl) dX9_set_3 (isB_t hs (by decide)) ?_
    refine g_if_ne (tgt := 12) hX dX9_set_6 (by decide) (fun _ => ?_) (fun h9 => absurd h9 ((by decide)))
    refine g_aload_n (i := 0) hX dX9_set_12 rfl rfl ?_
    refine fX9_11 hX dX9_set_13 ?_
    refine g_iload_n (i := 1) hX dX9_set_16 rfl rfl ?_
    refine g_aaloadN hX (show 49 < NC by decide) (Or.inl rfl) (show lay 49 = (2, 8, [0, 2, 4, 6, 8, 10, 12, 14]) by decide) rfl (hs) (by decide) (shh s hs) dX9_set_17 ?_
    refine g_astore hX dX9_set_18 (by decide) rfl ?_
    refine g_aload hX dX9_set_20 rfl ?_
    refine fX9_112 hX hb dX9_set_22 ?_
    refine g_if_eq (tgt := 34) hX dX9_set_25 (by decide) (fun _ => ?_) (fun h9 => absurd (m1) h9)
    refine g_aload hX dX9_set_34 rfl ?_
    refine g_iload_n (i := 2) hX dX9_set_36 rfl rfl ?_
    refine g_iconst hX dX9_set_37 ic1 ?_
    refine sX9_115 hX hb ⟨Nat.le_of_ble_eq_true rfl, Nat.le_of_ble_eq_true rfl⟩ (Nat.le_of_ble_eq_true rfl) dX9_set_38 (c_hasPlaces_t (n := 1) hb z2 z1 (by omega)) ?_
    refine g_if_ne (tgt := 50) hX dX9_set_41 (by decide) (fun _ => ?_) (fun h9 => absurd h9 ((by decide)))
    refine g_aload_n (i := 0) hX dX9_set_50 rfl rfl ?_
    refine g_aload hX dX9_set_51 rfl ?_
    refine g_iload_n (i := 2) hX dX9_set_53 rfl rfl ?_
    refine g_iload_n (i := 3) hX dX9_set_54 rfl rfl ?_
    refine sX9_118 hX hb ⟨Nat.le_of_ble_eq_true rfl, Nat.le_of_ble_eq_true rfl⟩ (Nat.le_of_ble_eq_true rfl) dX9_set_55 (c_put hb z2 z1 l2 l1 hi) ?_
    refine sX9_109 hX ⟨Nat.le_of_ble_eq_true rfl, Nat.le_of_ble_eq_true rfl⟩ (Nat.le_of_ble_eq_true rfl) dX9_set_58 (c_noFinding) ?_
    refine g_iret (st := []) hX hE rfl dX9_set_61 (⟨_, rfl, rfl, rfl⟩)
  · intro S1 hS1
    have e68 : S1.1 68 = S.1 68 := by rw [hS1, pR_ne _ _ (by decide), pR_ne _ _ (by omega)]
    have e69 : S1.1 69 = S.1 69 := by rw [hS1, pR_ne _ _ (by decide), pR_ne _ _ (by omega)]
    have e70 : S1.1 70 = S.1 70 := by rw [hS1, pR_ne _ _ (by decide), pR_ne _ _ (by omega)]
    have e48 : S1.1 48 15 = 0 := by rw [hS1]; rfl
    have hF1 : Fq shK shO S S1 := by rw [hS1]; exact (Fq.rf.R (shK_lt (by omega))).I (by decide)
    have eA : ∀ k, k < 16 → k ≠ 2 * s + 1 → S1.1 k = S.1 k := fun k hk hne => by rw [hS1, pR_ne _ _ (by omega), pR_ne _ _ hne]
    have eB : S1.1 (2 * s + 1) = upd (S.1 (2 * s + 1)) i (cutv l x3) := by rw [hS1, pR_ne _ _ (by omega), pR_self]
    clear hS1
    refine oX10_set (fun X hX hE => ?_)
    refine g_aload_n (i := 0) hX dX10_set_0 rfl rfl ?_
    refine g_iconst hX dX10_set_1 ic0 ?_
    refine pX10_78 hX dX10_set_2 ?_
    refine g_iload_n (i := 1) hX dX10_set_5 rfl rfl ?_
    refine sX10_91 hX ⟨Nat.le_of_ble_eq_true rfl, Nat.le_of_ble_eq_true rfl⟩ (Nat.le_of_ble_eq_true rfl) dX10_set_6 (c_isSheet_t hs) ?_
    refine g_if_ne (tgt := 15) hX dX10_set_9 (by decide) (fun _ => ?_) (fun h9 => absurd h9 ((by decide)))
    refine g_aload_n (i := 0) hX dX10_set_15 rfl rfl ?_
    refine g_iconst hX dX10_set_16 ic0 ?_
    refine pX10_81 hX dX10_set_17 ?_
    refine g_aload_n (i := 0) hX dX10_set_20 rfl rfl ?_
    refine fX10_7 hX dX10_set_21 ?_
    refine g_iload_n (i := 1) hX dX10_set_24 rfl rfl ?_
    refine g_ialoadN hX (ia68) rfl (hs) (by first | decide | assumption | omega) dX10_set_25 ?_
    refine g_if_ge (tgt := 35) hX dX10_set_26 (by decide) (fun _ => ?_) (fun h9 => absurd ((show 0 ≤ S1.1 68 s by rw [e68, l3]; exact nI_pos' (by omega))) h9)
    refine g_iload_n (i := 2) hX dX10_set_35 rfl rfl ?_
    refine g_i2l hX dX10_set_36 ?_
    refine g_lconst (v := 0) hX dX10_set_37 (by decide) ?_
    refine g_aload_n (i := 0) hX dX10_set_38 rfl rfl ?_
    refine fX10_13 hX dX10_set_39 ?_
    refine g_iload_n (i := 1) hX dX10_set_42 rfl rfl ?_
    refine g_ialoadN hX (ia69) rfl (hs) (by first | decide | assumption | omega) dX10_set_43 ?_
    refine g_iconst hX dX10_set_44 ic1 ?_
    refine g_isub hX dX10_set_45 ?_
    refine g_i2l hX dX10_set_46 ?_
    refine sX10_87 hX ⟨Nat.le_of_ble_eq_true rfl, Nat.le_of_ble_eq_true rfl⟩ (Nat.le_of_ble_eq_true rfl) dX10_set_47 (c_inI_t (by rw [L0, nI_toInt (by omega)]; omega) (by rw [l_i]; show (nI i).toInt ≤ (S1.1 69 s - 1).toInt; rw [e69, z3, i_sub (by rw [nI_toInt (by omega), t1]; omega) (by rw [nI_toInt (by omega), t1]; omega), nI_toInt (by omega), nI_toInt (by omega), t1]; omega)) ?_
    refine g_if_ne (tgt := 59) hX dX10_set_50 (by decide) (fun _ => ?_) (fun h9 => absurd h9 ((by decide)))
    have fin : ∀ x, x = cutv l x3 → G Γ X (pI (pI S1 67 0 0) 67 1 0) 99 [(0, .ref (Γ.1 67)), (1, .int (nI s)), (2, .int (nI i)), (3, .int x3)] [.int x, .int (60 * nI s + nI i), .ref (Γ.1 70)] := by
      intro x hx
      subst hx
      refine g_iastoreN hX (ia70) (nI_60 s i) (items_in hs (by omega)) (by first | decide | assumption | omega) dX10_set_99 ?_
      refine g_aload_n (i := 0) hX dX10_set_100 rfl rfl ?_
      refine fX10_16 hX dX10_set_101 ?_
      refine g_bipush hX dX10_set_104 bp60 ?_
      refine g_iload_n (i := 1) hX dX10_set_106 rfl rfl ?_
      refine g_imul hX dX10_set_107 ?_
      refine g_iload_n (i := 2) hX dX10_set_108 rfl rfl ?_
      refine g_iadd hX dX10_set_109 ?_
      refine g_ialoadN hX (ia70) (nI_60 s i) (items_in hs (by omega)) (by first | decide | assumption | omega) dX10_set_110 ?_
      refine g_iret (st := []) hX hE rfl dX10_set_111 (⟨_, rfl, ?_, ?_⟩)
      · show upd _ _ _ _ = _
        exact upd_self _ _ _
      · refine hR.sheet (x := 0) (((hF1.I (by decide)).I (by decide)).R (by decide)) ?_ e48 rfl
        refine hR.1.upd s ⟨z, z1, ?_, ?_, ?_, Or.inr ⟨?_, l, l1, ?_, ?_⟩⟩ ?_
        · rw [lowR (by omega) (by omega) (by omega), eA _ (by omega) (by omega)]; exact z2
        · show S1.1 69 s = nI z
          rw [e69]; exact z3
        · intro j hj
          rw [lowR (by omega) (by omega) (by omega), eB]
          show _ = upd (S1.1 70) (60 * s + i) (cutv l x3) (60 * s + j)
          rw [e70]
          by_cases e : j = i
          · subst e; rw [upd_self, upd_self]
          · rw [upd_ne _ _ e, upd_ne _ _ (by omega)]; exact z4 j hj
        · rw [lowR (by omega) (by omega) (by omega), eA _ (by omega) (by omega)]; exact m1
        · rw [lowR (by omega) (by omega) (by omega), eA _ (by omega) (by omega)]; exact l2
        · show S1.1 68 s = nI l
          rw [e68]; exact l3
        · intro t ht hts
          refine ⟨by rw [lowR (by omega) (by omega) (by omega), eA _ (by omega) (by omega)], by rw [lowR (by omega) (by omega) (by omega), eA _ (by omega) (by omega)], ?_, ?_, ?_⟩
          · show S1.1 68 t = _
            rw [e68]
          · show S1.1 69 t = _
            rw [e69]
          · intro j hj
            show upd (S1.1 70) (60 * s + i) (cutv l x3) (60 * t + j) = _
            rw [upd_ne _ _ (by omega), e70]
    have hlv : (pI (pI S1 67 0 0) 67 1 0).1 68 s = nI l := by show S1.1 68 s = nI l; rw [e68, l3]
    rcases (by omega : l = 0 ∨ l = 1 ∨ l = 2) with rfl | rfl | rfl
    · refine g_aload_n (i := 0) hX dX10_set_59 rfl rfl ?_
      refine fX10_16 hX dX10_set_60 ?_
      refine g_bipush hX dX10_set_63 bp60 ?_
      refine g_iload_n (i := 1) hX dX10_set_65 rfl rfl ?_
      refine g_imul hX dX10_set_66 ?_
      refine g_iload_n (i := 2) hX dX10_set_67 rfl rfl ?_
      refine g_iadd hX dX10_set_68 ?_
      refine g_aload_n (i := 0) hX dX10_set_69 rfl rfl ?_
      refine fX10_7 hX dX10_set_70 ?_
      refine g_iload_n (i := 1) hX dX10_set_73 rfl rfl ?_
      refine g_ialoadN hX (ia68) rfl (hs) (by first | decide | assumption | omega) dX10_set_74 ?_
      refine g_if_ne (tgt := 83) hX dX10_set_75 (by decide) (fun h9 => absurd (hlv) h9) (fun _ => ?_)
      refine g_iload_n (i := 3) hX dX10_set_78 rfl rfl ?_
      refine g_i2b hX dX10_set_79 ?_
      refine g_goto (tgt := 99) hX dX10_set_80 (by decide) ?_
      exact fin _ rfl
    · refine g_aload_n (i := 0) hX dX10_set_59 rfl rfl ?_
      refine fX10_16 hX dX10_set_60 ?_
      refine g_bipush hX dX10_set_63 bp60 ?_
      refine g_iload_n (i := 1) hX dX10_set_65 rfl rfl ?_
      refine g_imul hX dX10_set_66 ?_
      refine g_iload_n (i := 2) hX dX10_set_67 rfl rfl ?_
      refine g_iadd hX dX10_set_68 ?_
      refine g_aload_n (i := 0) hX dX10_set_69 rfl rfl ?_
      refine fX10_7 hX dX10_set_70 ?_
      refine g_iload_n (i := 1) hX dX10_set_73 rfl rfl ?_
      refine g_ialoadN hX (ia68) rfl (hs) (by first | decide | assumption | omega) dX10_set_74 ?_
      refine g_if_ne (tgt := 83) hX dX10_set_75 (by decide) (fun _ => ?_) (fun h9 => absurd h9 ((by rw [hlv]; decide)))
      refine g_aload_n (i := 0) hX dX10_set_83 rfl rfl ?_
      refine fX10_7 hX dX10_set_84 ?_
      refine g_iload_n (i := 1) hX dX10_set_87 rfl rfl ?_
      refine g_ialoadN hX (ia68) rfl (hs) (by first | decide | assumption | omega) dX10_set_88 ?_
      refine g_iconst hX dX10_set_89 ic1 ?_
      refine g_icmp_ne (tgt := 98) hX dX10_set_90 (by decide) (fun h9 => absurd (hlv) h9) (fun _ => ?_)
      refine g_iload_n (i := 3) hX dX10_set_93 rfl rfl ?_
      refine g_i2s hX dX10_set_94 ?_
      refine g_goto (tgt := 99) hX dX10_set_95 (by decide) ?_
      exact fin _ rfl
    · refine g_aload_n (i := 0) hX dX10_set_59 rfl rfl ?_
      refine fX10_16 hX dX10_set_60 ?_
      refine g_bipush hX dX10_set_63 bp60 ?_
      refine g_iload_n (i := 1) hX dX10_set_65 rfl rfl ?_
      refine g_imul hX dX10_set_66 ?_
      refine g_iload_n (i := 2) hX dX10_set_67 rfl rfl ?_
      refine g_iadd hX dX10_set_68 ?_
      refine g_aload_n (i := 0) hX dX10_set_69 rfl rfl ?_
      refine fX10_7 hX dX10_set_70 ?_
      refine g_iload_n (i := 1) hX dX10_set_73 rfl rfl ?_
      refine g_ialoadN hX (ia68) rfl (hs) (by first | decide | assumption | omega) dX10_set_74 ?_
      refine g_if_ne (tgt := 83) hX dX10_set_75 (by decide) (fun _ => ?_) (fun h9 => absurd h9 ((by rw [hlv]; decide)))
      refine g_aload_n (i := 0) hX dX10_set_83 rfl rfl ?_
      refine fX10_7 hX dX10_set_84 ?_
      refine g_iload_n (i := 1) hX dX10_set_87 rfl rfl ?_
      refine g_ialoadN hX (ia68) rfl (hs) (by first | decide | assumption | omega) dX10_set_88 ?_
      refine g_iconst hX dX10_set_89 ic1 ?_
      refine g_icmp_ne (tgt := 98) hX dX10_set_90 (by decide) (fun _ => ?_) (fun h9 => absurd h9 ((by rw [hlv]; decide)))
      refine g_iload_n (i := 3) hX dX10_set_98 rfl rfl ?_
      exact fin _ rfl
