/-! promises 2 to 5: sheet, set, copy, drop -/
theorem lowR {S : St} {a b c k : Nat} {f g h : Nat → Int32} (h1 : k ≠ a) (h2 : k ≠ b) (h3 : k ≠ c) : (pR (pR (pR S a f) b g) c h).1 k = S.1 k := by rw [pR_ne _ _ h3, pR_ne _ _ h2, pR_ne _ _ h1]
theorem step_drop {Γ : GG} (x1 : Int32) : Step (fun S P => kX9_drop Γ [.ref (Γ.1 48), .int x1] S P) (fun S P => kX10_drop Γ [.ref (Γ.1 67), .int x1] S P) := by
  intro S hR
  by_cases h1 : inB x1 8
  case neg =>
    refine ⟨-1000001, fun S1 => S1 = S, ?_, ?_⟩
    · refine oX9_drop (fun X hX hE => ?_)
      refine g_iload_n (i := 1) hX dX9_drop_0 rfl rfl ?_
      refine g_bipush hX dX9_drop_1 bp8 ?_
      refine sX9_96 hX ⟨Nat.le_of_ble_eq_true rfl, Nat.le_of_ble_eq_true rfl⟩ (Nat.le_of_ble_eq_true rfl) dX9_drop_3 (isB_f (by decide) h1) ?_
      refine g_if_ne (tgt := 12) hX dX9_drop_6 (by decide) (fun h9 => absurd (rfl) h9) (fun _ => ?_)
      refine g_ldc hX ccX9_100 dX9_drop_9 ?_
      refine g_iret (st := []) hX hE rfl dX9_drop_11 (⟨_, rfl, rfl, rfl⟩)
    · rintro S1 rfl
      refine oX10_drop (fun X hX hE => ?_)
      refine g_aload_n (i := 0) hX dX10_drop_0 rfl rfl ?_
      refine g_iconst hX dX10_drop_1 ic0 ?_
      refine pX10_78 hX dX10_drop_2 ?_
      refine g_iload_n (i := 1) hX dX10_drop_5 rfl rfl ?_
      refine sX10_91 hX ⟨Nat.le_of_ble_eq_true rfl, Nat.le_of_ble_eq_true rfl⟩ (Nat.le_of_ble_eq_true rfl) dX10_drop_6 (c_isSheet_f h1) ?_
      refine g_if_ne (tgt := 15) hX dX10_drop_9 (by decide) (fun h9 => absurd (rfl) h9) (fun _ => ?_)
      refine g_ldc hX ccX10_97 dX10_drop_12 ?_
      refine g_iret (st := []) hX hE rfl dX10_drop_14 (⟨_, rfl, rfl, hR.thrown⟩)
  obtain ⟨s, hs, rfl⟩ := h1
  obtain ⟨z, z1, z2, z3, z4, z5⟩ := hR.1 s hs
  have hb := isheet s hs
  rcases z5 with ⟨m1, m2⟩ | ⟨m1, l, l1, l2, l3⟩
  · refine ⟨-1000010 - 1, fun S1 => S1 = pI S 48 15 1, ?_, ?_⟩
    · refine oX9_drop (fun X hX hE => ?_)
      refine g_iload_n (i := 1) hX dX9_drop_0 rfl rfl ?_
      refine g_bipush hX dX9_drop_1 bp8 ?_
      refine sX9_96 hX ⟨Nat.le_of_ble_eq_true rfl, Nat.le_of_ble_eq_true rfl⟩ (Nat.le_of_ble_eq_true rfl) dX9_drop_3 (isB_t hs (by decide)) ?_
      refine g_if_ne (tgt := 12) hX dX9_drop_6 (by decide) (fun _ => ?_) (fun h9 => absurd h9 ((by decide)))
      refine g_aload_n (i := 0) hX dX9_drop_12 rfl rfl ?_
      refine fX9_11 hX dX9_drop_13 ?_
      refine g_iload_n (i := 1) hX dX9_drop_16 rfl rfl ?_
      refine g_aaloadN hX (show 49 < NC by decide) (Or.inl rfl) (show lay 49 = (2, 8, [0, 2, 4, 6, 8, 10, 12, 14]) by decide) rfl (hs) (by decide) (shh s hs) dX9_drop_17 ?_
      refine g_astore_n (i := 2) hX dX9_drop_18 rfl (by decide) rfl ?_
      refine g_aload_n (i := 2) hX dX9_drop_19 rfl rfl ?_
      refine fX9_112 hX hb dX9_drop_20 ?_
      refine g_if_eq (tgt := 32) hX dX9_drop_23 (by decide) (fun h9 => absurd h9 ((by rw [m1]; decide))) (fun _ => ?_)
      refine g_aload_n (i := 0) hX dX9_drop_26 rfl rfl ?_
      refine g_iconst hX dX9_drop_27 ic1 ?_
      refine sX9_101 hX ⟨Nat.le_of_ble_eq_true rfl, Nat.le_of_ble_eq_true rfl⟩ (Nat.le_of_ble_eq_true rfl) dX9_drop_28 (c_finding) ?_
      refine g_iret (st := []) hX hE rfl dX9_drop_31 (⟨_, rfl, rfl, rfl⟩)
    · rintro S1 rfl
      refine oX10_drop (fun X hX hE => ?_)
      refine g_aload_n (i := 0) hX dX10_drop_0 rfl rfl ?_
      refine g_iconst hX dX10_drop_1 ic0 ?_
      refine pX10_78 hX dX10_drop_2 ?_
      refine g_iload_n (i := 1) hX dX10_drop_5 rfl rfl ?_
      refine sX10_91 hX ⟨Nat.le_of_ble_eq_true rfl, Nat.le_of_ble_eq_true rfl⟩ (Nat.le_of_ble_eq_true rfl) dX10_drop_6 (c_isSheet_t hs) ?_
      refine g_if_ne (tgt := 15) hX dX10_drop_9 (by decide) (fun _ => ?_) (fun h9 => absurd h9 ((by decide)))
      refine g_aload_n (i := 0) hX dX10_drop_15 rfl rfl ?_
      refine g_iconst hX dX10_drop_16 ic0 ?_
      refine pX10_81 hX dX10_drop_17 ?_
      refine g_aload_n (i := 0) hX dX10_drop_20 rfl rfl ?_
      refine fX10_7 hX dX10_drop_21 ?_
      refine g_iload_n (i := 1) hX dX10_drop_24 rfl rfl ?_
      refine g_ialoadN hX (ia68) rfl (hs) (by first | decide | assumption | omega) dX10_drop_25 ?_
      refine g_if_ge (tgt := 35) hX dX10_drop_26 (by decide) (fun h9 => absurd h9 ((show ¬ 0 ≤ S.1 68 s by rw [m2]; decide))) (fun _ => ?_)
      refine g_aload_n (i := 0) hX dX10_drop_29 rfl rfl ?_
      refine g_iconst hX dX10_drop_30 ic1 ?_
      refine sX10_98 hX ⟨Nat.le_of_ble_eq_true rfl, Nat.le_of_ble_eq_true rfl⟩ (Nat.le_of_ble_eq_true rfl) dX10_drop_31 (c_findingR) ?_
      refine g_iret (st := []) hX hE rfl dX10_drop_34 (⟨_, rfl, rfl, hR.find (x := 1) ((((Fq.rf.I (by decide)).I (by decide)).I (by decide)).I (by decide)) rfl rfl⟩)
  · refine ⟨nI z, fun S1 => S1 = pI (pI S (2 * s) 1 1) 48 15 0, ?_, ?_⟩
    · refine oX9_drop (fun X hX hE => ?_)
      refine g_iload_n (i := 1) hX dX9_drop_0 rfl rfl ?_
      refine g_bipush hX dX9_drop_1 bp8 ?_
      refine sX9_96 hX ⟨Nat.le_of_ble_eq_true rfl, Nat.le_of_ble_eq_true rfl⟩ (Nat.le_of_ble_eq_true rfl) dX9_drop_3 (isB_t hs (by decide)) ?_
      refine g_if_ne (tgt := 12) hX dX9_drop_6 (by decide) (fun _ => ?_) (fun h9 => absurd h9 ((by decide)))
      refine g_aload_n (i := 0) hX dX9_drop_12 rfl rfl ?_
      refine fX9_11 hX dX9_drop_13 ?_
      refine g_iload_n (i := 1) hX dX9_drop_16 rfl rfl ?_
      refine g_aaloadN hX (show 49 < NC by decide) (Or.inl rfl) (show lay 49 = (2, 8, [0, 2, 4, 6, 8, 10, 12, 14]) by decide) rfl (hs) (by decide) (shh s hs) dX9_drop_17 ?_
      refine g_astore_n (i := 2) hX dX9_drop_18 rfl (by decide) rfl ?_
      refine g_aload_n (i := 2) hX dX9_drop_19 rfl rfl ?_
      refine fX9_112 hX hb dX9_drop_20 ?_
      refine g_if_eq (tgt := 32) hX dX9_drop_23 (by decide) (fun _ => ?_) (fun h9 => absurd (m1) h9)
      refine g_aload_n (i := 2) hX dX9_drop_32 rfl rfl ?_
      refine g_iconst hX dX9_drop_33 ic1 ?_
      refine pX9_112 hX hb (Or.inr rfl) dX9_drop_34 ?_
      refine g_aload_n (i := 0) hX dX9_drop_37 rfl rfl ?_
      refine g_aload_n (i := 2) hX dX9_drop_38 rfl rfl ?_
      refine fX9_134 hX hb dX9_drop_39 ?_
      refine sX9_109 hX ⟨Nat.le_of_ble_eq_true rfl, Nat.le_of_ble_eq_true rfl⟩ (Nat.le_of_ble_eq_true rfl) dX9_drop_42 (c_noFinding) ?_
      refine g_iret (st := []) hX hE rfl dX9_drop_45 (⟨_, rfl, by rw [pR_self, upd_ne _ _ (by decide)]; exact z2, rfl⟩)
    · intro S1 hS1
      have e68 : S1.1 68 = S.1 68 := by rw [hS1, pR_ne _ _ (by decide), pR_ne _ _ (by omega)]
      have e69 : S1.1 69 = S.1 69 := by rw [hS1, pR_ne _ _ (by decide), pR_ne _ _ (by omega)]
      have e70 : S1.1 70 = S.1 70 := by rw [hS1, pR_ne _ _ (by decide), pR_ne _ _ (by omega)]
      have e48 : S1.1 48 15 = 0 := by rw [hS1]; rfl
      have hF1 : Fq shK shO S S1 := by rw [hS1]; exact (Fq.rf.R (shK_lt (by omega))).I (by decide)
      have eA : ∀ t, t < 8 → S1.1 (2 * t) = if t = s then upd (S.1 (2 * s)) 1 1 else S.1 (2 * t) := by
        intro t ht
        rw [hS1, pR_ne _ _ (by omega)]
        by_cases e : t = s
        · subst e; rw [if_pos rfl, pR_self]
        · rw [if_neg e, pR_ne _ _ (by omega)]
      have eB : ∀ t, t < 8 → S1.1 (2 * t + 1) = S.1 (2 * t + 1) := by
        intro t ht
        rw [hS1, pR_ne _ _ (by omega), pR_ne _ _ (by omega)]
      clear hS1
      refine oX10_drop (fun X hX hE => ?_)
      refine g_aload_n (i := 0) hX dX10_drop_0 rfl rfl ?_
      refine g_iconst hX dX10_drop_1 ic0 ?_
      refine pX10_78 hX dX10_drop_2 ?_
      refine g_iload_n (i := 1) hX dX10_drop_5 rfl rfl ?_
      refine sX10_91 hX ⟨Nat.le_of_ble_eq_true rfl, Nat.le_of_ble_eq_true rfl⟩ (Nat.le_of_ble_eq_true rfl) dX10_drop_6 (c_isSheet_t hs) ?_
      refine g_if_ne (tgt := 15) hX dX10_drop_9 (by decide) (fun _ => ?_) (fun h9 => absurd h9 ((by decide)))
      refine g_aload_n (i := 0) hX dX10_drop_15 rfl rfl ?_
      refine g_iconst hX dX10_drop_16 ic0 ?_
      refine pX10_81 hX dX10_drop_17 ?_
      refine g_aload_n (i := 0) hX dX10_drop_20 rfl rfl ?_
      refine fX10_7 hX dX10_drop_21 ?_
      refine g_iload_n (i := 1) hX dX10_drop_24 rfl rfl ?_
      refine g_ialoadN hX (ia68) rfl (hs) (by first | decide | assumption | omega) dX10_drop_25 ?_
      refine g_if_ge (tgt := 35) hX dX10_drop_26 (by decide) (fun _ => ?_) (fun h9 => absurd ((show 0 ≤ S1.1 68 s by rw [e68, l3]; exact nI_pos' (by omega))) h9)
      refine g_aload_n (i := 0) hX dX10_drop_35 rfl rfl ?_
      refine fX10_7 hX dX10_drop_36 ?_
      refine g_iload_n (i := 1) hX dX10_drop_39 rfl rfl ?_
      refine g_iconst hX dX10_drop_40 icm1 ?_
      refine g_iastoreN hX (ia68) rfl (hs) (by first | decide | assumption | omega) dX10_drop_41 ?_
      refine g_aload_n (i := 0) hX dX10_drop_42 rfl rfl ?_
      refine fX10_13 hX dX10_drop_43 ?_
      refine g_iload_n (i := 1) hX dX10_drop_46 rfl rfl ?_
      refine g_ialoadN hX (ia69) rfl (hs) (by first | decide | assumption | omega) dX10_drop_47 ?_
      refine g_iret (st := []) hX hE rfl dX10_drop_48 (⟨_, rfl, ?_, ?_⟩)
      · show S1.1 69 s = nI z
        rw [e69, z3]
      · refine hR.sheet (x := 0) ((((hF1.I (by decide)).I (by decide)).R (by decide))) ?_ e48 rfl
        refine hR.1.upd s ⟨z, z1, ?_, ?_, ?_, Or.inl ⟨?_, ?_⟩⟩ ?_
        · rw [lowR (by omega) (by omega) (by omega), eA s hs, if_pos rfl, upd_ne _ _ (by decide)]; exact z2
        · show S1.1 69 s = nI z
          rw [e69]; exact z3
        · intro j hj
          rw [lowR (by omega) (by omega) (by omega), eB s hs]
          show _ = S1.1 70 (60 * s + j)
          rw [e70]; exact z4 j hj
        · rw [lowR (by omega) (by omega) (by omega), eA s hs, if_pos rfl, upd_self]
        · show upd (S1.1 68) s (-1) s = -1
          exact upd_self _ _ _
        · intro t ht hts
          refine ⟨?_, ?_, ?_, ?_, ?_⟩
          · rw [lowR (by omega) (by omega) (by omega), eA t ht, if_neg hts]
          · rw [lowR (by omega) (by omega) (by omega), eB t ht]
          · show upd (S1.1 68) s (-1) t = _
            rw [upd_ne _ _ hts, e68]
          · show S1.1 69 t = _
            rw [e69]
          · intro j hj
            show S1.1 70 (60 * t + j) = _
            rw [e70]
