/-! promises 25, 26, 29: kind, as, count -/
theorem kdV_le (o : Int32) (w : Nat → Nat → Nat) {p : Nat} (hp : p < 4) : 1 ≤ kdV o w p ∧ kdV o w p ≤ 5 := by
  unfold kdV; split <;> omega
theorem step_kind {Γ : GG} (x1 : Int32) : Step (fun S P => kX9_kind Γ [.ref (Γ.1 48), .int x1] S P) (fun S P => kX10_kind Γ [.ref (Γ.1 67), .int x1] S P) := by
  intro S hR
  by_cases h1 : inB x1 4
  case neg =>
    refine ⟨-1000001, fun S1 => S1 = S, ?_, ?_⟩
    · refine oX9_kind (fun X hX hE => ?_)
      refine g_iload_n (i := 1) hX dX9_kind_0 rfl rfl ?_
      refine g_iconst hX dX9_kind_1 ic4 ?_
      refine sX9_96 hX ⟨Nat.le_of_ble_eq_true rfl, Nat.le_of_ble_eq_true rfl⟩ (Nat.le_of_ble_eq_true rfl) dX9_kind_2 (isB_f (n := 4) (by decide) h1) ?_
      refine g_if_ne (tgt := 11) hX dX9_kind_5 (by decide) (fun h9 => absurd (rfl) h9) (fun _ => ?_)
      refine g_ldc hX ccX9_100 dX9_kind_8 ?_
      refine g_iret (st := []) hX hE rfl dX9_kind_10 (⟨_, rfl, rfl, rfl⟩)
    · rintro S1 rfl
      refine oX10_kind (fun X hX hE => ?_)
      refine g_aload_n (i := 0) hX dX10_kind_0 rfl rfl ?_
      refine g_iconst hX dX10_kind_1 ic0 ?_
      refine pX10_78 hX dX10_kind_2 ?_
      refine g_iload_n (i := 1) hX dX10_kind_5 rfl rfl ?_
      refine sX10_202 hX ⟨Nat.le_of_ble_eq_true rfl, Nat.le_of_ble_eq_true rfl⟩ (Nat.le_of_ble_eq_true rfl) dX10_kind_6 (c_isPart_f h1) ?_
      refine g_if_eq (tgt := 20) hX dX10_kind_9 (by decide) (fun _ => ?_) (fun h9 => absurd (rfl) h9)
      refine g_ldc hX ccX10_97 dX10_kind_20 ?_
      refine g_iret (st := []) hX hE rfl dX10_kind_22 (⟨_, rfl, rfl, hR.thrown⟩)
  obtain ⟨p, hp, rfl⟩ := h1
  obtain ⟨w, w1, w2, w3, w4⟩ := hR.2.2.2.1
  have ho := (hR.2.2.2.2.1.1 p hp).1
  refine ⟨nI (kdV (S.1 55 p) w p), fun S1 => S1 = S, ?_, ?_⟩
  · refine oX9_kind (fun X hX hE => ?_)
    refine g_iload_n (i := 1) hX dX9_kind_0 rfl rfl ?_
    refine g_iconst hX dX9_kind_1 ic4 ?_
    refine sX9_96 hX ⟨Nat.le_of_ble_eq_true rfl, Nat.le_of_ble_eq_true rfl⟩ (Nat.le_of_ble_eq_true rfl) dX9_kind_2 (isB_t (n := 4) hp (by decide)) ?_
    refine g_if_ne (tgt := 11) hX dX9_kind_5 (by decide) (fun _ => ?_) (fun h9 => absurd h9 ((by decide)))
    refine g_aload_n (i := 0) hX dX9_kind_11 rfl rfl ?_
    refine fX9_38 hX dX9_kind_12 ?_
    refine g_iload_n (i := 1) hX dX9_kind_15 rfl rfl ?_
    refine sX9_261 hX ⟨Nat.le_of_ble_eq_true rfl, Nat.le_of_ble_eq_true rfl⟩ (Nat.le_of_ble_eq_true rfl) dX9_kind_16 (c_kindOf hp w1) ?_
    refine g_iret (st := []) hX hE rfl dX9_kind_19 (⟨_, rfl, rfl, rfl⟩)
  · rintro S1 rfl
    refine oX10_kind (fun X hX hE => ?_)
    refine g_aload_n (i := 0) hX dX10_kind_0 rfl rfl ?_
    refine g_iconst hX dX10_kind_1 ic0 ?_
    refine pX10_78 hX dX10_kind_2 ?_
    refine g_iload_n (i := 1) hX dX10_kind_5 rfl rfl ?_
    refine sX10_202 hX ⟨Nat.le_of_ble_eq_true rfl, Nat.le_of_ble_eq_true rfl⟩ (Nat.le_of_ble_eq_true rfl) dX10_kind_6 (c_isPart_t hp) ?_
    refine g_if_eq (tgt := 20) hX dX10_kind_9 (by decide) (fun h9 => absurd h9 ((by decide))) (fun _ => ?_)
    refine g_aload_n (i := 0) hX dX10_kind_12 rfl rfl ?_
    refine g_iload_n (i := 1) hX dX10_kind_13 rfl rfl ?_
    refine sX10_293 hX ⟨Nat.le_of_ble_eq_true rfl, Nat.le_of_ble_eq_true rfl⟩ (Nat.le_of_ble_eq_true rfl) dX10_kind_14 (c_kindOfR (w := w) hp (fun p hp i hi => (w1 p hp i hi).2) w2 w3) ?_
    refine g_goto (tgt := 22) hX dX10_kind_17 (by decide) ?_
    refine g_iret (st := []) hX hE rfl dX10_kind_22 (⟨_, rfl, ?_, hR.thrown⟩)
    show nI (kdV (S1.1 77 p) w p) = _
    rw [ho]
/-- a kind may be used as another -/
def isK (k q : Nat) : Prop := q = 0 ∨ k = q ∨ (q = 3 ∧ k = 4)
theorem c_isOfKind {Γ : GG} {S : St} {k q : Nat} {r : Int32} (hk : k < 6) (hq : q < 6) (hr : (isK k q ∧ r = 1) ∨ (¬ isK k q ∧ r = 0)) : kX9_isOfKind Γ [.int (nI k), .int (nI q)] S (rI r S) := by
  refine oX9_isOfKind (fun X hX hE => ?_)
  have yes : isK k q → ∀ ls, G Γ X S 19 ls [] := by
    intro h ls
    rcases hr with ⟨-, rfl⟩ | ⟨h2, -⟩
    · refine g_iconst hX dX9_isOfKind_19 ic1 ?_
      refine g_goto (tgt := 24) hX dX9_isOfKind_20 (by decide) ?_
      refine g_zret (st := []) hX hE rfl (nz_narrow (Or.inr rfl)).1 dX9_isOfKind_24 (⟨rfl, rfl⟩)
    · exact absurd h h2
  have no : ¬ isK k q → ∀ ls, G Γ X S 23 ls [] := by
    intro h ls
    rcases hr with ⟨h2, -⟩ | ⟨-, rfl⟩
    · exact absurd h2 h
    · refine g_iconst hX dX9_isOfKind_23 ic0 ?_
      refine g_zret (st := []) hX hE rfl (nz_narrow (Or.inl rfl)).1 dX9_isOfKind_24 (⟨rfl, rfl⟩)
  refine g_iload_n (i := 1) hX dX9_isOfKind_0 rfl rfl ?_
  refine g_iload_n (i := 0) hX dX9_isOfKind_1 rfl rfl ?_
  refine g_icmp_eq (tgt := 19) hX dX9_isOfKind_2 (by decide) (fun q1 => ?_) (fun q1 => ?_)
  · exact yes (Or.inr (Or.inl (nI_inj (by omega) (by omega) q1).symm)) _
  refine g_iload_n (i := 1) hX dX9_isOfKind_5 rfl rfl ?_
  refine g_if_eq (tgt := 19) hX dX9_isOfKind_6 (by decide) (fun q2 => ?_) (fun q2 => ?_)
  · exact yes (Or.inl (nI_inj (b := 0) (by omega) (by omega) q2)) _
  refine g_iload_n (i := 1) hX dX9_isOfKind_9 rfl rfl ?_
  refine g_iconst hX dX9_isOfKind_10 ic3 ?_
  refine g_icmp_ne (tgt := 23) hX dX9_isOfKind_11 (by decide) (fun q3 => ?_) (fun q3 => ?_)
  · refine no ?_ _
    rintro (h | h | h)
    · rw [h] at q2; exact q2 rfl
    · rw [h] at q1; exact q1 rfl
    · rw [h.1] at q3; exact q3 rfl
  refine g_iload_n (i := 0) hX dX9_isOfKind_14 rfl rfl ?_
  refine g_iconst hX dX9_isOfKind_15 ic4 ?_
  refine g_icmp_ne (tgt := 23) hX dX9_isOfKind_16 (by decide) (fun q4 => ?_) (fun q4 => ?_)
  · refine no ?_ _
    rintro (h | h | h)
    · rw [h] at q2; exact q2 rfl
    · rw [h] at q1; exact q1 rfl
    · rw [h.2] at q4; exact q4 rfl
  · exact yes (Or.inr (Or.inr ⟨nI_inj (b := 3) (by omega) (by omega) q3, nI_inj (b := 4) (by omega) (by omega) q4⟩)) _
theorem c_isOf {Γ : GG} {S : St} {k q : Nat} {r : Int32} (hk : k < 6) (hq : q < 6) (hr : (isK k q ∧ r = 1) ∨ (¬ isK k q ∧ r = 0)) : kX10_isOf Γ [.int (nI k), .int (nI q)] S (rI r S) := by
  refine oX10_isOf (fun X hX hE => ?_)
  have yes : isK k q → ∀ ls, G Γ X S 19 ls [] := by
    intro h ls
    rcases hr with ⟨-, rfl⟩ | ⟨h2, -⟩
    · refine g_iconst hX dX10_isOf_19 ic1 ?_
      refine g_goto (tgt := 24) hX dX10_isOf_20 (by decide) ?_
      refine g_zret (st := []) hX hE rfl (nz_narrow (Or.inr rfl)).1 dX10_isOf_24 (⟨rfl, rfl⟩)
    · exact absurd h h2
  have no : ¬ isK k q → ∀ ls, G Γ X S 23 ls [] := by
    intro h ls
    rcases hr with ⟨h2, -⟩ | ⟨-, rfl⟩
    · exact absurd h2 h
    · refine g_iconst hX dX10_isOf_23 ic0 ?_
      refine g_zret (st := []) hX hE rfl (nz_narrow (Or.inl rfl)).1 dX10_isOf_24 (⟨rfl, rfl⟩)
  refine g_iload_n (i := 1) hX dX10_isOf_0 rfl rfl ?_
  refine g_if_eq (tgt := 19) hX dX10_isOf_1 (by decide) (fun q2 => ?_) (fun q2 => ?_)
  · exact yes (Or.inl (nI_inj (b := 0) (by omega) (by omega) q2)) _
  refine g_iload_n (i := 0) hX dX10_isOf_4 rfl rfl ?_
  refine g_iload_n (i := 1) hX dX10_isOf_5 rfl rfl ?_
  refine g_icmp_eq (tgt := 19) hX dX10_isOf_6 (by decide) (fun q1 => ?_) (fun q1 => ?_)
  · exact yes (Or.inr (Or.inl (nI_inj (by omega) (by omega) q1))) _
  refine g_iload_n (i := 1) hX dX10_isOf_9 rfl rfl ?_
  refine g_iconst hX dX10_isOf_10 ic3 ?_
  refine g_icmp_ne (tgt := 23) hX dX10_isOf_11 (by decide) (fun q3 => ?_) (fun q3 => ?_)
  · refine no ?_ _
    rintro (h | h | h)
    · rw [h] at q2; exact q2 rfl
    · rw [h] at q1; exact q1 rfl
    · rw [h.1] at q3; exact q3 rfl
  refine g_iload_n (i := 0) hX dX10_isOf_14 rfl rfl ?_
  refine g_iconst hX dX10_isOf_15 ic4 ?_
  refine g_icmp_ne (tgt := 23) hX dX10_isOf_16 (by decide) (fun q4 => ?_) (fun q4 => ?_)
  · refine no ?_ _
    rintro (h | h | h)
    · rw [h] at q2; exact q2 rfl
    · rw [h] at q1; exact q1 rfl
    · rw [h.2] at q4; exact q4 rfl
  · exact yes (Or.inr (Or.inr ⟨nI_inj (b := 3) (by omega) (by omega) q3, nI_inj (b := 4) (by omega) (by omega) q4⟩)) _
theorem step_as {Γ : GG} (x1 x2 : Int32) : Step (fun S P => kX9_as Γ [.ref (Γ.1 48), .int x1, .int x2] S P) (fun S P => kX10_as Γ [.ref (Γ.1 67), .int x1, .int x2] S P) := by
  intro S hR
  by_cases h1 : inB x1 4
  case neg =>
    refine ⟨-1000001, fun S1 => S1 = S, ?_, ?_⟩
    · refine oX9_as (fun X hX hE => ?_)
      refine g_iload_n (i := 1) hX dX9_as_0 rfl rfl ?_
      refine g_iconst hX dX9_as_1 ic4 ?_
      refine sX9_96 hX ⟨Nat.le_of_ble_eq_true rfl, Nat.le_of_ble_eq_true rfl⟩ (Nat.le_of_ble_eq_true rfl) dX9_as_2 (isB_f (n := 4) (by decide) h1) ?_
      refine g_if_eq (tgt := 17) hX dX9_as_5 (by decide) (fun _ => ?_) (fun h9 => absurd (rfl) h9)
      refine g_ldc hX ccX9_100 dX9_as_17 ?_
      refine g_iret (st := []) hX hE rfl dX9_as_19 (⟨_, rfl, rfl, rfl⟩)
    · rintro S1 rfl
      refine oX10_as (fun X hX hE => ?_)
      refine g_aload_n (i := 0) hX dX10_as_0 rfl rfl ?_
      refine g_iconst hX dX10_as_1 ic0 ?_
      refine pX10_78 hX dX10_as_2 ?_
      refine g_iload_n (i := 1) hX dX10_as_5 rfl rfl ?_
      refine sX10_202 hX ⟨Nat.le_of_ble_eq_true rfl, Nat.le_of_ble_eq_true rfl⟩ (Nat.le_of_ble_eq_true rfl) dX10_as_6 (c_isPart_f h1) ?_
      refine g_if_eq (tgt := 24) hX dX10_as_9 (by decide) (fun _ => ?_) (fun h9 => absurd (rfl) h9)
      refine g_ldc hX ccX10_97 dX10_as_24 ?_
      refine g_iret (st := []) hX hE rfl dX10_as_26 (⟨_, rfl, rfl, hR.thrown⟩)
  obtain ⟨p, hp, rfl⟩ := h1
  by_cases h2 : inB x2 6
  case neg =>
    refine ⟨-1000001, fun S1 => S1 = S, ?_, ?_⟩
    · refine oX9_as (fun X hX hE => ?_)
      refine g_iload_n (i := 1) hX dX9_as_0 rfl rfl ?_
      refine g_iconst hX dX9_as_1 ic4 ?_
      refine sX9_96 hX ⟨Nat.le_of_ble_eq_true rfl, Nat.le_of_ble_eq_true rfl⟩ (Nat.le_of_ble_eq_true rfl) dX9_as_2 (isB_t (n := 4) hp (by decide)) ?_
      refine g_if_eq (tgt := 17) hX dX9_as_5 (by decide) (fun h9 => absurd h9 ((by decide))) (fun _ => ?_)
      refine g_iload_n (i := 2) hX dX9_as_8 rfl rfl ?_
      refine g_bipush hX dX9_as_9 bp6 ?_
      refine sX9_96 hX ⟨Nat.le_of_ble_eq_true rfl, Nat.le_of_ble_eq_true rfl⟩ (Nat.le_of_ble_eq_true rfl) dX9_as_11 (isB_f (n := 6) (by decide) h2) ?_
      refine g_if_ne (tgt := 20) hX dX9_as_14 (by decide) (fun h9 => absurd (rfl) h9) (fun _ => ?_)
      refine g_ldc hX ccX9_100 dX9_as_17 ?_
      refine g_iret (st := []) hX hE rfl dX9_as_19 (⟨_, rfl, rfl, rfl⟩)
    · rintro S1 rfl
      refine oX10_as (fun X hX hE => ?_)
      rw [inB_iff (by decide)] at h2
      refine g_aload_n (i := 0) hX dX10_as_0 rfl rfl ?_
      refine g_iconst hX dX10_as_1 ic0 ?_
      refine pX10_78 hX dX10_as_2 ?_
      refine g_iload_n (i := 1) hX dX10_as_5 rfl rfl ?_
      refine sX10_202 hX ⟨Nat.le_of_ble_eq_true rfl, Nat.le_of_ble_eq_true rfl⟩ (Nat.le_of_ble_eq_true rfl) dX10_as_6 (c_isPart_t hp) ?_
      refine g_if_eq (tgt := 24) hX dX10_as_9 (by decide) (fun h9 => absurd h9 ((by decide))) (fun _ => ?_)
      refine g_iload_n (i := 2) hX dX10_as_12 rfl rfl ?_
      refine g_i2l hX dX10_as_13 ?_
      refine g_lconst (v := 0) hX dX10_as_14 (by decide) ?_
      refine g_ldc2_w hX ccX10_259 dX10_as_15 ?_
      refine sX10_87 hX ⟨Nat.le_of_ble_eq_true rfl, Nat.le_of_ble_eq_true rfl⟩ (Nat.le_of_ble_eq_true rfl) dX10_as_18 (c_inI_f (by rw [L0, show (5 : Int64).toInt = 5 by decide]; omega)) ?_
      refine g_if_ne (tgt := 27) hX dX10_as_21 (by decide) (fun h9 => absurd (rfl) h9) (fun _ => ?_)
      refine g_ldc hX ccX10_97 dX10_as_24 ?_
      refine g_iret (st := []) hX hE rfl dX10_as_26 (⟨_, rfl, rfl, hR.thrown⟩)
  obtain ⟨q, hq, rfl⟩ := h2
  obtain ⟨w, w1, w2, w3, w4⟩ := hR.2.2.2.1
  have ho := (hR.2.2.2.2.1.1 p hp).1
  have hk := kdV_le (S.1 55 p) w hp
  have c5 : ∀ T : St, kX10_in Γ [.long (nI q).toInt64, .long 0, .long 5] T (rI 1 T) := fun T => c_inI_t (by rw [nI_toInt (by omega), L0]; omega) (by rw [nI_toInt (by omega), show (5 : Int64).toInt = 5 by decide]; omega)
  by_cases hok : isK (kdV (S.1 55 p) w p) q
  · refine ⟨nI p, fun S1 => S1 = pI S 48 15 0, ?_, ?_⟩
    · refine oX9_as (fun X hX hE => ?_)
      refine g_iload_n (i := 1) hX dX9_as_0 rfl rfl ?_
      refine g_iconst hX dX9_as_1 ic4 ?_
      refine sX9_96 hX ⟨Nat.le_of_ble_eq_true rfl, Nat.le_of_ble_eq_true rfl⟩ (Nat.le_of_ble_eq_true rfl) dX9_as_2 (isB_t (n := 4) hp (by decide)) ?_
      refine g_if_eq (tgt := 17) hX dX9_as_5 (by decide) (fun h9 => absurd h9 ((by decide))) (fun _ => ?_)
      refine g_iload_n (i := 2) hX dX9_as_8 rfl rfl ?_
      refine g_bipush hX dX9_as_9 bp6 ?_
      refine sX9_96 hX ⟨Nat.le_of_ble_eq_true rfl, Nat.le_of_ble_eq_true rfl⟩ (Nat.le_of_ble_eq_true rfl) dX9_as_11 (isB_t (n := 6) hq (by decide)) ?_
      refine g_if_ne (tgt := 20) hX dX9_as_14 (by decide) (fun _ => ?_) (fun h9 => absurd h9 ((by decide)))
      refine g_aload_n (i := 0) hX dX9_as_20 rfl rfl ?_
      refine fX9_38 hX dX9_as_21 ?_
      refine g_iload_n (i := 1) hX dX9_as_24 rfl rfl ?_
      refine sX9_261 hX ⟨Nat.le_of_ble_eq_true rfl, Nat.le_of_ble_eq_true rfl⟩ (Nat.le_of_ble_eq_true rfl) dX9_as_25 (c_kindOf hp w1) ?_
      refine g_iload_n (i := 2) hX dX9_as_28 rfl rfl ?_
      refine sX9_264 hX ⟨Nat.le_of_ble_eq_true rfl, Nat.le_of_ble_eq_true rfl⟩ (Nat.le_of_ble_eq_true rfl) dX9_as_29 (c_isOfKind (by omega) hq (Or.inl ⟨hok, rfl⟩)) ?_
      refine g_if_ne (tgt := 41) hX dX9_as_32 (by decide) (fun _ => ?_) (fun h9 => absurd h9 ((by decide)))
      refine g_aload_n (i := 0) hX dX9_as_41 rfl rfl ?_
      refine g_iload_n (i := 1) hX dX9_as_42 rfl rfl ?_
      refine sX9_109 hX ⟨Nat.le_of_ble_eq_true rfl, Nat.le_of_ble_eq_true rfl⟩ (Nat.le_of_ble_eq_true rfl) dX9_as_43 (c_noFinding) ?_
      refine g_iret (st := []) hX hE rfl dX9_as_46 (⟨_, rfl, rfl, rfl⟩)
    · rintro S1 rfl
      refine oX10_as (fun X hX hE => ?_)
      have hkr : kX10_kindOf Γ [.ref (Γ.1 67), .int (nI p)] (pI (pI (pI S 48 15 0) 67 0 0) 67 1 0) (rI (nI (kdV (S.1 55 p) w p)) (pI (pI (pI S 48 15 0) 67 0 0) 67 1 0)) := by
        rw [ho]; exact c_kindOfR (w := w) hp (fun p hp i hi => (w1 p hp i hi).2) w2 w3
      refine g_aload_n (i := 0) hX dX10_as_0 rfl rfl ?_
      refine g_iconst hX dX10_as_1 ic0 ?_
      refine pX10_78 hX dX10_as_2 ?_
      refine g_iload_n (i := 1) hX dX10_as_5 rfl rfl ?_
      refine sX10_202 hX ⟨Nat.le_of_ble_eq_true rfl, Nat.le_of_ble_eq_true rfl⟩ (Nat.le_of_ble_eq_true rfl) dX10_as_6 (c_isPart_t hp) ?_
      refine g_if_eq (tgt := 24) hX dX10_as_9 (by decide) (fun h9 => absurd h9 ((by decide))) (fun _ => ?_)
      refine g_iload_n (i := 2) hX dX10_as_12 rfl rfl ?_
      refine g_i2l hX dX10_as_13 ?_
      refine g_lconst (v := 0) hX dX10_as_14 (by decide) ?_
      refine g_ldc2_w hX ccX10_259 dX10_as_15 ?_
      refine sX10_87 hX ⟨Nat.le_of_ble_eq_true rfl, Nat.le_of_ble_eq_true rfl⟩ (Nat.le_of_ble_eq_true rfl) dX10_as_18 (c5 _) ?_
      refine g_if_ne (tgt := 27) hX dX10_as_21 (by decide) (fun _ => ?_) (fun h9 => absurd h9 ((by decide)))
      refine g_aload_n (i := 0) hX dX10_as_27 rfl rfl ?_
      refine g_iconst hX dX10_as_28 ic0 ?_
      refine pX10_81 hX dX10_as_29 ?_
      refine g_aload_n (i := 0) hX dX10_as_32 rfl rfl ?_
      refine g_iload_n (i := 1) hX dX10_as_33 rfl rfl ?_
      refine sX10_293 hX ⟨Nat.le_of_ble_eq_true rfl, Nat.le_of_ble_eq_true rfl⟩ (Nat.le_of_ble_eq_true rfl) dX10_as_34 (hkr) ?_
      refine g_iload_n (i := 2) hX dX10_as_37 rfl rfl ?_
      refine sX10_296 hX ⟨Nat.le_of_ble_eq_true rfl, Nat.le_of_ble_eq_true rfl⟩ (Nat.le_of_ble_eq_true rfl) dX10_as_38 (c_isOf (by omega) hq (Or.inl ⟨hok, rfl⟩)) ?_
      refine g_if_eq (tgt := 48) hX dX10_as_41 (by decide) (fun h9 => absurd h9 ((by decide))) (fun _ => ?_)
      refine g_iload_n (i := 1) hX dX10_as_44 rfl rfl ?_
      refine g_goto (tgt := 53) hX dX10_as_45 (by decide) ?_
      refine g_iret (st := []) hX hE rfl dX10_as_53 (⟨_, rfl, rfl, hR.find (x := 0) (((Fq.rf.I (by decide)).I (by decide)).I (by decide)) rfl rfl⟩)
  · refine ⟨-1000010 - 3, fun S1 => S1 = pI S 48 15 3, ?_, ?_⟩
    · refine oX9_as (fun X hX hE => ?_)
      refine g_iload_n (i := 1) hX dX9_as_0 rfl rfl ?_
      refine g_iconst hX dX9_as_1 ic4 ?_
      refine sX9_96 hX ⟨Nat.le_of_ble_eq_true rfl, Nat.le_of_ble_eq_true rfl⟩ (Nat.le_of_ble_eq_true rfl) dX9_as_2 (isB_t (n := 4) hp (by decide)) ?_
      refine g_if_eq (tgt := 17) hX dX9_as_5 (by decide) (fun h9 => absurd h9 ((by decide))) (fun _ => ?_)
      refine g_iload_n (i := 2) hX dX9_as_8 rfl rfl ?_
      refine g_bipush hX dX9_as_9 bp6 ?_
      refine sX9_96 hX ⟨Nat.le_of_ble_eq_true rfl, Nat.le_of_ble_eq_true rfl⟩ (Nat.le_of_ble_eq_true rfl) dX9_as_11 (isB_t (n := 6) hq (by decide)) ?_
      refine g_if_ne (tgt := 20) hX dX9_as_14 (by decide) (fun _ => ?_) (fun h9 => absurd h9 ((by decide)))
      refine g_aload_n (i := 0) hX dX9_as_20 rfl rfl ?_
      refine fX9_38 hX dX9_as_21 ?_
      refine g_iload_n (i := 1) hX dX9_as_24 rfl rfl ?_
      refine sX9_261 hX ⟨Nat.le_of_ble_eq_true rfl, Nat.le_of_ble_eq_true rfl⟩ (Nat.le_of_ble_eq_true rfl) dX9_as_25 (c_kindOf hp w1) ?_
      refine g_iload_n (i := 2) hX dX9_as_28 rfl rfl ?_
      refine sX9_264 hX ⟨Nat.le_of_ble_eq_true rfl, Nat.le_of_ble_eq_true rfl⟩ (Nat.le_of_ble_eq_true rfl) dX9_as_29 (c_isOfKind (by omega) hq (Or.inr ⟨hok, rfl⟩)) ?_
      refine g_if_ne (tgt := 41) hX dX9_as_32 (by decide) (fun h9 => absurd (rfl) h9) (fun _ => ?_)
      refine g_aload_n (i := 0) hX dX9_as_35 rfl rfl ?_
      refine g_iconst hX dX9_as_36 ic3 ?_
      refine sX9_101 hX ⟨Nat.le_of_ble_eq_true rfl, Nat.le_of_ble_eq_true rfl⟩ (Nat.le_of_ble_eq_true rfl) dX9_as_37 (c_finding) ?_
      refine g_iret (st := []) hX hE rfl dX9_as_40 (⟨_, rfl, rfl, rfl⟩)
    · rintro S1 rfl
      refine oX10_as (fun X hX hE => ?_)
      have hkr : kX10_kindOf Γ [.ref (Γ.1 67), .int (nI p)] (pI (pI (pI S 48 15 3) 67 0 0) 67 1 0) (rI (nI (kdV (S.1 55 p) w p)) (pI (pI (pI S 48 15 3) 67 0 0) 67 1 0)) := by
        rw [ho]; exact c_kindOfR (w := w) hp (fun p hp i hi => (w1 p hp i hi).2) w2 w3
      refine g_aload_n (i := 0) hX dX10_as_0 rfl rfl ?_
      refine g_iconst hX dX10_as_1 ic0 ?_
      refine pX10_78 hX dX10_as_2 ?_
      refine g_iload_n (i := 1) hX dX10_as_5 rfl rfl ?_
      refine sX10_202 hX ⟨Nat.le_of_ble_eq_true rfl, Nat.le_of_ble_eq_true rfl⟩ (Nat.le_of_ble_eq_true rfl) dX10_as_6 (c_isPart_t hp) ?_
      refine g_if_eq (tgt := 24) hX dX10_as_9 (by decide) (fun h9 => absurd h9 ((by decide))) (fun _ => ?_)
      refine g_iload_n (i := 2) hX dX10_as_12 rfl rfl ?_
      refine g_i2l hX dX10_as_13 ?_
      refine g_lconst (v := 0) hX dX10_as_14 (by decide) ?_
      refine g_ldc2_w hX ccX10_259 dX10_as_15 ?_
      refine sX10_87 hX ⟨Nat.le_of_ble_eq_true rfl, Nat.le_of_ble_eq_true rfl⟩ (Nat.le_of_ble_eq_true rfl) dX10_as_18 (c5 _) ?_
      refine g_if_ne (tgt := 27) hX dX10_as_21 (by decide) (fun _ => ?_) (fun h9 => absurd h9 ((by decide)))
      refine g_aload_n (i := 0) hX dX10_as_27 rfl rfl ?_
      refine g_iconst hX dX10_as_28 ic0 ?_
      refine pX10_81 hX dX10_as_29 ?_
      refine g_aload_n (i := 0) hX dX10_as_32 rfl rfl ?_
      refine g_iload_n (i := 1) hX dX10_as_33 rfl rfl ?_
      refine sX10_293 hX ⟨Nat.le_of_ble_eq_true rfl, Nat.le_of_ble_eq_true rfl⟩ (Nat.le_of_ble_eq_true rfl) dX10_as_34 (hkr) ?_
      refine g_iload_n (i := 2) hX dX10_as_37 rfl rfl ?_
      refine sX10_296 hX ⟨Nat.le_of_ble_eq_true rfl, Nat.le_of_ble_eq_true rfl⟩ (Nat.le_of_ble_eq_true rfl) dX10_as_38 (c_isOf (by omega) hq (Or.inr ⟨hok, rfl⟩)) ?_
      refine g_if_eq (tgt := 48) hX dX10_as_41 (by decide) (fun _ => ?_) (fun h9 => absurd (rfl) h9)
      refine g_aload_n (i := 0) hX dX10_as_48 rfl rfl ?_
      refine g_iconst hX dX10_as_49 ic3 ?_
      refine sX10_98 hX ⟨Nat.le_of_ble_eq_true rfl, Nat.le_of_ble_eq_true rfl⟩ (Nat.le_of_ble_eq_true rfl) dX10_as_50 (c_findingR) ?_
      refine g_iret (st := []) hX hE rfl dX10_as_53 (⟨_, rfl, rfl, hR.find (x := 3) ((((Fq.rf.I (by decide)).I (by decide)).I (by decide)).I (by decide)) rfl rfl⟩)
/-- how many of the first n are so -/
def cntB (f : Nat → Bool) : Nat → Nat
  | 0 => 0
  | n + 1 => cntB f n + (if f n = true then 1 else 0)
theorem c_howManySheets {Γ : GG} {S : St} : kX9_howManySheets Γ [.ref (Γ.1 48)] S (rI (nI (cntB (fun j => decide (S.1 (2 * j) 1 = 0)) 8)) S) := by
  refine oX9_howManySheets (fun X hX hE => ?_)
  have loop : ∀ d i, i + d = 8 → G Γ X S 4 [(0, .ref (Γ.1 48)), (1, .int (nI (cntB (fun j => decide (S.1 (2 * j) 1 = 0)) i))), (2, .int (nI i))] [] := by
    intro d
    induction d with
    | zero =>
      intro i hi
      obtain rfl : i = 8 := by omega
      refine g_iload_n (i := 2) hX dX9_howManySheets_4 rfl rfl ?_
      refine g_bipush hX dX9_howManySheets_5 bp8 ?_
      refine g_icmp_ge (tgt := 31) hX dX9_howManySheets_7 (by decide) (fun _ => ?_) (fun h9 => absurd (Int32.le_refl _) h9)
      refine g_iload_n (i := 1) hX dX9_howManySheets_31 rfl rfl ?_
      refine g_iret (st := []) hX hE rfl dX9_howManySheets_32 (⟨rfl, rfl⟩)
    | succ d ih =>
      intro i hi
      have hb := isheet i (by omega)
      have h2 := ih (i + 1) (by omega)
      refine g_iload_n (i := 2) hX dX9_howManySheets_4 rfl rfl ?_
      refine g_bipush hX dX9_howManySheets_5 bp8 ?_
      refine g_icmp_ge (tgt := 31) hX dX9_howManySheets_7 (by decide) (fun h9 => absurd h9 (nI_ge (show i < 8 by omega) (by decide))) (fun _ => ?_)
      refine g_aload_n (i := 0) hX dX9_howManySheets_10 rfl rfl ?_
      refine fX9_11 hX dX9_howManySheets_11 ?_
      refine g_iload_n (i := 2) hX dX9_howManySheets_14 rfl rfl ?_
      refine g_aaloadN hX (show 49 < NC by decide) (Or.inl rfl) (show lay 49 = (2, 8, [0, 2, 4, 6, 8, 10, 12, 14]) by decide) rfl ((show i < 8 by omega)) (by decide) (shh i (by omega)) dX9_howManySheets_15 ?_
      refine fX9_112 hX hb dX9_howManySheets_16 ?_
      refine g_if_ne (tgt := 25) hX dX9_howManySheets_19 (by decide) (fun q => ?_) (fun q => ?_)
      · refine g_iinc hX dX9_howManySheets_25 rfl ic1 (by decide) rfl ?_
        refine g_goto (tgt := 4) hX dX9_howManySheets_28 (by decide) ?_
        simp only [cntB, q, decide_false, Bool.false_eq_true, if_false, Nat.add_zero] at h2
        rw [nI_1]
        exact h2
      · refine g_iinc hX dX9_howManySheets_22 rfl ic1 (by decide) rfl ?_
        refine g_iinc hX dX9_howManySheets_25 rfl ic1 (by decide) rfl ?_
        refine g_goto (tgt := 4) hX dX9_howManySheets_28 (by decide) ?_
        simp only [cntB, q, decide_true, if_true] at h2
        rw [nI_1, nI_1]
        exact h2
  refine g_iconst hX dX9_howManySheets_0 ic0 ?_
  refine g_istore_n (i := 1) hX dX9_howManySheets_1 rfl (by decide) rfl ?_
  refine g_iconst hX dX9_howManySheets_2 ic0 ?_
  refine g_istore_n (i := 2) hX dX9_howManySheets_3 rfl (by decide) rfl ?_
  exact loop 8 0 (by omega)
theorem c_howManyEmpty {Γ : GG} {S : St} {w : Nat → Nat → Nat} (w1 : ∀ p, p < 4 → ∀ i, i < 11 → S.1 (36 + p) i = nI (w p i) ∧ w p i ≤ 99) : kX5_howManyEmpty Γ [.ref (Γ.1 53)] S (rI (nI (cntB (fun p => decide (kdV (S.1 55 p) w p = 5)) 4)) S) := by
  refine oX5_howManyEmpty (fun X hX hE => ?_)
  have loop : ∀ d i, i + d = 4 → G Γ X S 4 [(0, .ref (Γ.1 53)), (1, .int (nI (cntB (fun p => decide (kdV (S.1 55 p) w p = 5)) i))), (2, .int (nI i))] [] := by
    intro d
    induction d with
    | zero =>
      intro i hi
      obtain rfl : i = 4 := by omega
      refine g_iload_n (i := 2) hX dX5_howManyEmpty_4 rfl rfl ?_
      refine g_iconst hX dX5_howManyEmpty_5 ic4 ?_
      refine g_icmp_ge (tgt := 27) hX dX5_howManyEmpty_6 (by decide) (fun _ => ?_) (fun h9 => absurd (Int32.le_refl _) h9)
      refine g_iload_n (i := 1) hX dX5_howManyEmpty_27 rfl rfl ?_
      refine g_iret (st := []) hX hE rfl dX5_howManyEmpty_28 (⟨rfl, rfl⟩)
    | succ d ih =>
      intro i hi
      have hk := kdV_le (S.1 55 i) w (show i < 4 by omega)
      have h2 := ih (i + 1) (by omega)
      by_cases q : kdV (S.1 55 i) w i = 5
      · refine g_iload_n (i := 2) hX dX5_howManyEmpty_4 rfl rfl ?_
        refine g_iconst hX dX5_howManyEmpty_5 ic4 ?_
        refine g_icmp_ge (tgt := 27) hX dX5_howManyEmpty_6 (by decide) (fun h9 => absurd h9 (nI_ge (show i < 4 by omega) (by decide))) (fun _ => ?_)
        refine g_aload_n (i := 0) hX dX5_howManyEmpty_9 rfl rfl ?_
        refine g_iload_n (i := 2) hX dX5_howManyEmpty_10 rfl rfl ?_
        refine sX5_28 hX ⟨Nat.le_of_ble_eq_true rfl, Nat.le_of_ble_eq_true rfl⟩ (Nat.le_of_ble_eq_true rfl) dX5_howManyEmpty_11 (c_kindOf (by omega) w1) ?_
        refine g_iconst hX dX5_howManyEmpty_14 ic5 ?_
        refine g_icmp_ne (tgt := 21) hX dX5_howManyEmpty_15 (by decide) (fun h9 => absurd ((by rw [q]; rfl)) h9) (fun _ => ?_)
        refine g_iinc hX dX5_howManyEmpty_18 rfl ic1 (by decide) rfl ?_
        refine g_iinc hX dX5_howManyEmpty_21 rfl ic1 (by decide) rfl ?_
        refine g_goto (tgt := 4) hX dX5_howManyEmpty_24 (by decide) ?_
        simp only [cntB, q, decide_true, if_true] at h2
        rw [nI_1, nI_1]
        exact h2
      · refine g_iload_n (i := 2) hX dX5_howManyEmpty_4 rfl rfl ?_
        refine g_iconst hX dX5_howManyEmpty_5 ic4 ?_
        refine g_icmp_ge (tgt := 27) hX dX5_howManyEmpty_6 (by decide) (fun h9 => absurd h9 (nI_ge (show i < 4 by omega) (by decide))) (fun _ => ?_)
        refine g_aload_n (i := 0) hX dX5_howManyEmpty_9 rfl rfl ?_
        refine g_iload_n (i := 2) hX dX5_howManyEmpty_10 rfl rfl ?_
        refine sX5_28 hX ⟨Nat.le_of_ble_eq_true rfl, Nat.le_of_ble_eq_true rfl⟩ (Nat.le_of_ble_eq_true rfl) dX5_howManyEmpty_11 (c_kindOf (by omega) w1) ?_
        refine g_iconst hX dX5_howManyEmpty_14 ic5 ?_
        refine g_icmp_ne (tgt := 21) hX dX5_howManyEmpty_15 (by decide) (fun _ => ?_) (fun h9 => absurd h9 (nI_ne (b := 5) (by omega) (by omega) q))
        refine g_iinc hX dX5_howManyEmpty_21 rfl ic1 (by decide) rfl ?_
        refine g_goto (tgt := 4) hX dX5_howManyEmpty_24 (by decide) ?_
        simp only [cntB, q, decide_false, Bool.false_eq_true, if_false, Nat.add_zero] at h2
        rw [nI_1]
        exact h2
  refine g_iconst hX dX5_howManyEmpty_0 ic0 ?_
  refine g_istore_n (i := 1) hX dX5_howManyEmpty_1 rfl (by decide) rfl ?_
  refine g_iconst hX dX5_howManyEmpty_2 ic0 ?_
  refine g_istore_n (i := 2) hX dX5_howManyEmpty_3 rfl (by decide) rfl ?_
  exact loop 4 0 (by omega)
theorem cntB_congr {f g : Nat → Bool} : ∀ n, (∀ i, i < n → f i = g i) → cntB f n = cntB g n := by
  intro n
  induction n with
  | zero => intro _; rfl
  | succ n ih => intro h; simp only [cntB]; rw [ih (fun i hi => h i (by omega)), h n (by omega)]
theorem step_count {Γ : GG} (x1 : Int32) : Step (fun S P => kX9_count Γ [.ref (Γ.1 48), .int x1] S P) (fun S P => kX10_count Γ [.ref (Γ.1 67), .int x1] S P) := by
  intro S hR
  by_cases h1 : inB x1 6
  case neg =>
    rw [inB_iff (by decide)] at h1
    refine ⟨-1000001, fun S1 => S1 = S, ?_, ?_⟩
    · refine oX9_count (fun X hX hE => ?_)
      refine g_iload_n (i := 1) hX dX9_count_0 rfl rfl ?_
      refine g_tableOut (tgt := 82) hX dX9_count_1 ((by omega)) (by decide) ?_
      refine g_ldc hX ccX9_100 dX9_count_82 ?_
      refine g_iret (st := []) hX hE rfl dX9_count_84 (⟨_, rfl, rfl, rfl⟩)
    · rintro S1 rfl
      refine oX10_count (fun X hX hE => ?_)
      refine g_aload_n (i := 0) hX dX10_count_0 rfl rfl ?_
      refine g_iconst hX dX10_count_1 ic0 ?_
      refine pX10_78 hX dX10_count_2 ?_
      refine g_iconst hX dX10_count_5 ic0 ?_
      refine g_istore_n (i := 2) hX dX10_count_6 rfl (by decide) rfl ?_
      refine g_iload_n (i := 1) hX dX10_count_7 rfl rfl ?_
      refine g_tableOut (tgt := 137) hX dX10_count_8 ((by omega)) (by decide) ?_
      refine g_ldc hX ccX10_97 dX10_count_137 ?_
      refine g_iret (st := []) hX hE rfl dX10_count_139 (⟨_, rfl, rfl, hR.thrown⟩)
  obtain ⟨c, hc, rfl⟩ := h1
  rcases (by omega : c = 0 ∨ c = 1 ∨ c = 2 ∨ c = 3 ∨ c = 4 ∨ c = 5) with rfl | rfl | rfl | rfl | rfl | rfl
  · refine ⟨nI (cntB (fun j => decide (S.1 (2 * j) 1 = 0)) 8), fun S1 => S1 = S, ?_, ?_⟩
    · refine oX9_count (fun X hX hE => ?_)
      refine g_iload_n (i := 1) hX dX9_count_0 rfl rfl ?_
      refine g_tableIn (off := 39) (tgt := 40) hX dX9_count_1 (by decide) (by decide) (by decide) (by decide) ?_
      refine g_aload_n (i := 0) hX dX9_count_40 rfl rfl ?_
      refine sX9_282 hX ⟨Nat.le_of_ble_eq_true rfl, Nat.le_of_ble_eq_true rfl⟩ (Nat.le_of_ble_eq_true rfl) dX9_count_41 (c_howManySheets) ?_
      refine g_iret (st := []) hX hE rfl dX9_count_44 (⟨_, rfl, rfl, rfl⟩)
    · rintro S1 rfl
      refine oX10_count (fun X hX hE => ?_)
      have loop : ∀ d i, i + d = 8 → G Γ X (S0 S1) 50 [(0, .ref (Γ.1 67)), (1, .int (nI 0)), (2, .int (nI (cntB (fun j => decide (S1.1 (2 * j) 1 = 0)) i))), (3, .int (nI i))] [] := by
        intro d
        induction d with
        | zero =>
          intro i hi
          obtain rfl : i = 8 := by omega
          refine g_iload_n (i := 3) hX dX10_count_50 rfl rfl ?_
          refine g_bipush hX dX10_count_51 bp8 ?_
          refine g_icmp_ge (tgt := 79) hX dX10_count_53 (by decide) (fun _ => ?_) (fun h9 => absurd (Int32.le_refl _) h9)
          refine g_iload_n (i := 2) hX dX10_count_79 rfl rfl ?_
          refine g_iret (st := []) hX hE rfl dX10_count_80 (⟨_, rfl, rfl, hR.thrown⟩)
        | succ d ih =>
          intro i hi
          have h2 := ih (i + 1) (by omega)
          obtain ⟨z, -, -, -, -, z5⟩ := hR.1 i (by omega)
          rcases z5 with ⟨m1, m2⟩ | ⟨m1, l, l1, l2, l3⟩
          · refine g_iload_n (i := 3) hX dX10_count_50 rfl rfl ?_
            refine g_bipush hX dX10_count_51 bp8 ?_
            refine g_icmp_ge (tgt := 79) hX dX10_count_53 (by decide) (fun h9 => absurd h9 (nI_ge (show i < 8 by omega) (by decide))) (fun _ => ?_)
            refine g_iload_n (i := 2) hX dX10_count_56 rfl rfl ?_
            refine g_aload_n (i := 0) hX dX10_count_57 rfl rfl ?_
            refine fX10_7 hX dX10_count_58 ?_
            refine g_iload_n (i := 3) hX dX10_count_61 rfl rfl ?_
            refine g_ialoadN hX (ia68) rfl ((show i < 8 by omega)) (by first | decide | assumption | omega) dX10_count_62 ?_
            refine g_if_lt (tgt := 70) hX dX10_count_63 (by decide) (fun _ => ?_) (fun h9 => absurd ((show S1.1 68 i < 0 by rw [m2]; decide)) h9)
            refine g_iconst hX dX10_count_70 ic0 ?_
            refine g_iadd hX dX10_count_71 ?_
            refine g_istore_n (i := 2) hX dX10_count_72 rfl (by decide) rfl ?_
            refine g_iinc hX dX10_count_73 rfl ic1 (by decide) rfl ?_
            refine g_goto (tgt := 50) hX dX10_count_76 (by decide) ?_
            have q : ¬ S1.1 (2 * i) 1 = 0 := by rw [m1]; decide
            simp only [cntB, q, decide_false, Bool.false_eq_true, if_false, Nat.add_zero] at h2
            rw [nI_1, Int32.add_zero]
            exact h2
          · refine g_iload_n (i := 3) hX dX10_count_50 rfl rfl ?_
            refine g_bipush hX dX10_count_51 bp8 ?_
            refine g_icmp_ge (tgt := 79) hX dX10_count_53 (by decide) (fun h9 => absurd h9 (nI_ge (show i < 8 by omega) (by decide))) (fun _ => ?_)
            refine g_iload_n (i := 2) hX dX10_count_56 rfl rfl ?_
            refine g_aload_n (i := 0) hX dX10_count_57 rfl rfl ?_
            refine fX10_7 hX dX10_count_58 ?_
            refine g_iload_n (i := 3) hX dX10_count_61 rfl rfl ?_
            refine g_ialoadN hX (ia68) rfl ((show i < 8 by omega)) (by first | decide | assumption | omega) dX10_count_62 ?_
            refine g_if_lt (tgt := 70) hX dX10_count_63 (by decide) (fun h9 => absurd h9 ((show ¬ S1.1 68 i < 0 by rw [l3]; exact nI_pos (by omega)))) (fun _ => ?_)
            refine g_iconst hX dX10_count_66 ic1 ?_
            refine g_goto (tgt := 71) hX dX10_count_67 (by decide) ?_
            refine g_iadd hX dX10_count_71 ?_
            refine g_istore_n (i := 2) hX dX10_count_72 rfl (by decide) rfl ?_
            refine g_iinc hX dX10_count_73 rfl ic1 (by decide) rfl ?_
            refine g_goto (tgt := 50) hX dX10_count_76 (by decide) ?_
            simp only [cntB, m1, decide_true, if_true] at h2
            rw [nI_1, nI_1]
            exact h2
      refine g_aload_n (i := 0) hX dX10_count_0 rfl rfl ?_
      refine g_iconst hX dX10_count_1 ic0 ?_
      refine pX10_78 hX dX10_count_2 ?_
      refine g_iconst hX dX10_count_5 ic0 ?_
      refine g_istore_n (i := 2) hX dX10_count_6 rfl (by decide) rfl ?_
      refine g_iload_n (i := 1) hX dX10_count_7 rfl rfl ?_
      refine g_tableIn (off := 40) (tgt := 48) hX dX10_count_8 (by decide) (by decide) (by decide) (by decide) ?_
      refine g_iconst hX dX10_count_48 ic0 ?_
      refine g_istore_n (i := 3) hX dX10_count_49 rfl (by decide) rfl ?_
      exact loop 8 0 (by omega)
  · obtain ⟨n, tk, nm, gr, a, b, -⟩ := hR.2.1
    refine ⟨nI n, fun S1 => S1 = S, ?_, ?_⟩
    · refine oX9_count (fun X hX hE => ?_)
      refine g_iload_n (i := 1) hX dX9_count_0 rfl rfl ?_
      refine g_tableIn (off := 44) (tgt := 45) hX dX9_count_1 (by decide) (by decide) (by decide) (by decide) ?_
      refine g_aload_n (i := 0) hX dX9_count_45 rfl rfl ?_
      refine fX9_18 hX dX9_count_46 ?_
      refine fX9_137 hX ir16 dX9_count_49 ?_
      refine g_iret (st := []) hX hE rfl dX9_count_52 (⟨_, rfl, a.2.1, rfl⟩)
    · rintro S1 rfl
      refine oX10_count (fun X hX hE => ?_)
      refine g_aload_n (i := 0) hX dX10_count_0 rfl rfl ?_
      refine g_iconst hX dX10_count_1 ic0 ?_
      refine pX10_78 hX dX10_count_2 ?_
      refine g_iconst hX dX10_count_5 ic0 ?_
      refine g_istore_n (i := 2) hX dX10_count_6 rfl (by decide) rfl ?_
      refine g_iload_n (i := 1) hX dX10_count_7 rfl rfl ?_
      refine g_tableIn (off := 73) (tgt := 81) hX dX10_count_8 (by decide) (by decide) (by decide) (by decide) ?_
      refine g_aload_n (i := 0) hX dX10_count_81 rfl rfl ?_
      refine fX10_19 hX dX10_count_82 ?_
      refine g_iconst hX dX10_count_85 ic0 ?_
      refine g_ialoadN (i := 0) hX (ia71) rfl (by decide) (by first | decide | assumption | omega) dX10_count_86 ?_
      refine g_iret (st := []) hX hE rfl dX10_count_87 (⟨_, rfl, b.1, hR.thrown⟩)
  · obtain ⟨n, tk, nm, gr, a, b, -⟩ := hR.2.2.1
    refine ⟨nI n, fun S1 => S1 = S, ?_, ?_⟩
    · refine oX9_count (fun X hX hE => ?_)
      refine g_iload_n (i := 1) hX dX9_count_0 rfl rfl ?_
      refine g_tableIn (off := 52) (tgt := 53) hX dX9_count_1 (by decide) (by decide) (by decide) (by decide) ?_
      refine g_aload_n (i := 0) hX dX9_count_53 rfl rfl ?_
      refine fX9_22 hX dX9_count_54 ?_
      refine fX9_137 hX ir21 dX9_count_57 ?_
      refine g_iret (st := []) hX hE rfl dX9_count_60 (⟨_, rfl, a.2.1, rfl⟩)
    · rintro S1 rfl
      refine oX10_count (fun X hX hE => ?_)
      refine g_aload_n (i := 0) hX dX10_count_0 rfl rfl ?_
      refine g_iconst hX dX10_count_1 ic0 ?_
      refine pX10_78 hX dX10_count_2 ?_
      refine g_iconst hX dX10_count_5 ic0 ?_
      refine g_istore_n (i := 2) hX dX10_count_6 rfl (by decide) rfl ?_
      refine g_iload_n (i := 1) hX dX10_count_7 rfl rfl ?_
      refine g_tableIn (off := 80) (tgt := 88) hX dX10_count_8 (by decide) (by decide) (by decide) (by decide) ?_
      refine g_aload_n (i := 0) hX dX10_count_88 rfl rfl ?_
      refine fX10_19 hX dX10_count_89 ?_
      refine g_iconst hX dX10_count_92 ic1 ?_
      refine g_ialoadN (i := 1) hX (ia71) rfl (by decide) (by first | decide | assumption | omega) dX10_count_93 ?_
      refine g_iret (st := []) hX hE rfl dX10_count_94 (⟨_, rfl, b.1, hR.thrown⟩)
  · obtain ⟨w, w1, w2, w3, w4⟩ := hR.2.2.2.1
    refine ⟨nI (cntB (fun p => decide (kdV (S.1 55 p) w p = 5)) 4), fun S1 => S1 = S, ?_, ?_⟩
    · refine oX9_count (fun X hX hE => ?_)
      refine g_iload_n (i := 1) hX dX9_count_0 rfl rfl ?_
      refine g_tableIn (off := 60) (tgt := 61) hX dX9_count_1 (by decide) (by decide) (by decide) (by decide) ?_
      refine g_aload_n (i := 0) hX dX9_count_61 rfl rfl ?_
      refine fX9_38 hX dX9_count_62 ?_
      refine sX9_285 hX ⟨Nat.le_of_ble_eq_true rfl, Nat.le_of_ble_eq_true rfl⟩ (Nat.le_of_ble_eq_true rfl) dX9_count_65 (c_howManyEmpty w1) ?_
      refine g_iret (st := []) hX hE rfl dX9_count_68 (⟨_, rfl, rfl, rfl⟩)
    · rintro S1 rfl
      refine oX10_count (fun X hX hE => ?_)
      have loop : ∀ d i, i + d = 4 → G Γ X (S0 S1) 97 [(0, .ref (Γ.1 67)), (1, .int (nI 3)), (2, .int (nI (cntB (fun p => decide (kdV (S1.1 55 p) w p = 5)) i))), (3, .int (nI i))] [] := by
        intro d
        induction d with
        | zero =>
          intro i hi
          obtain rfl : i = 4 := by omega
          refine g_iload_n (i := 3) hX dX10_count_97 rfl rfl ?_
          refine g_iconst hX dX10_count_98 ic4 ?_
          refine g_icmp_ge (tgt := 125) hX dX10_count_99 (by decide) (fun _ => ?_) (fun h9 => absurd (Int32.le_refl _) h9)
          refine g_iload_n (i := 2) hX dX10_count_125 rfl rfl ?_
          refine g_iret (st := []) hX hE rfl dX10_count_126 (⟨_, rfl, rfl, hR.thrown⟩)
        | succ d ih =>
          intro i hi
          have hk := kdV_le (S1.1 55 i) w (show i < 4 by omega)
          have ho := (hR.2.2.2.2.1.1 i (by omega)).1
          have hkr : kX10_kindOf Γ [.ref (Γ.1 67), .int (nI i)] (S0 S1) (rI (nI (kdV (S1.1 55 i) w i)) (S0 S1)) := by
            rw [ho]; exact c_kindOfR (w := w) (by omega) (fun p hp i hi => (w1 p hp i hi).2) w2 w3
          have h2 := ih (i + 1) (by omega)
          by_cases q : kdV (S1.1 55 i) w i = 5
          · refine g_iload_n (i := 3) hX dX10_count_97 rfl rfl ?_
            refine g_iconst hX dX10_count_98 ic4 ?_
            refine g_icmp_ge (tgt := 125) hX dX10_count_99 (by decide) (fun h9 => absurd h9 (nI_ge (show i < 4 by omega) (by decide))) (fun _ => ?_)
            refine g_iload_n (i := 2) hX dX10_count_102 rfl rfl ?_
            refine g_aload_n (i := 0) hX dX10_count_103 rfl rfl ?_
            refine g_iload_n (i := 3) hX dX10_count_104 rfl rfl ?_
            refine sX10_293 hX ⟨Nat.le_of_ble_eq_true rfl, Nat.le_of_ble_eq_true rfl⟩ (Nat.le_of_ble_eq_true rfl) dX10_count_105 (hkr) ?_
            refine g_iconst hX dX10_count_108 ic5 ?_
            refine g_icmp_ne (tgt := 116) hX dX10_count_109 (by decide) (fun h9 => absurd ((by rw [q]; rfl)) h9) (fun _ => ?_)
            refine g_iconst hX dX10_count_112 ic1 ?_
            refine g_goto (tgt := 117) hX dX10_count_113 (by decide) ?_
            refine g_iadd hX dX10_count_117 ?_
            refine g_istore_n (i := 2) hX dX10_count_118 rfl (by decide) rfl ?_
            refine g_iinc hX dX10_count_119 rfl ic1 (by decide) rfl ?_
            refine g_goto (tgt := 97) hX dX10_count_122 (by decide) ?_
            simp only [cntB, q, decide_true, if_true] at h2
            rw [nI_1, nI_1]
            exact h2
          · refine g_iload_n (i := 3) hX dX10_count_97 rfl rfl ?_
            refine g_iconst hX dX10_count_98 ic4 ?_
            refine g_icmp_ge (tgt := 125) hX dX10_count_99 (by decide) (fun h9 => absurd h9 (nI_ge (show i < 4 by omega) (by decide))) (fun _ => ?_)
            refine g_iload_n (i := 2) hX dX10_count_102 rfl rfl ?_
            refine g_aload_n (i := 0) hX dX10_count_103 rfl rfl ?_
            refine g_iload_n (i := 3) hX dX10_count_104 rfl rfl ?_
            refine sX10_293 hX ⟨Nat.le_of_ble_eq_true rfl, Nat.le_of_ble_eq_true rfl⟩ (Nat.le_of_ble_eq_true rfl) dX10_count_105 (hkr) ?_
            refine g_iconst hX dX10_count_108 ic5 ?_
            refine g_icmp_ne (tgt := 116) hX dX10_count_109 (by decide) (fun _ => ?_) (fun h9 => absurd h9 (nI_ne (b := 5) (by omega) (by omega) q))
            refine g_iconst hX dX10_count_116 ic0 ?_
            refine g_iadd hX dX10_count_117 ?_
            refine g_istore_n (i := 2) hX dX10_count_118 rfl (by decide) rfl ?_
            refine g_iinc hX dX10_count_119 rfl ic1 (by decide) rfl ?_
            refine g_goto (tgt := 97) hX dX10_count_122 (by decide) ?_
            simp only [cntB, q, decide_false, Bool.false_eq_true, if_false, Nat.add_zero] at h2
            rw [nI_1, Int32.add_zero]
            exact h2
      refine g_aload_n (i := 0) hX dX10_count_0 rfl rfl ?_
      refine g_iconst hX dX10_count_1 ic0 ?_
      refine pX10_78 hX dX10_count_2 ?_
      refine g_iconst hX dX10_count_5 ic0 ?_
      refine g_istore_n (i := 2) hX dX10_count_6 rfl (by decide) rfl ?_
      refine g_iload_n (i := 1) hX dX10_count_7 rfl rfl ?_
      refine g_tableIn (off := 87) (tgt := 95) hX dX10_count_8 (by decide) (by decide) (by decide) (by decide) ?_
      refine g_iconst hX dX10_count_95 ic0 ?_
      refine g_istore_n (i := 3) hX dX10_count_96 rfl (by decide) rfl ?_
      exact loop 4 0 (by omega)
  · obtain ⟨p, p1, p2, p3⟩ := hR.2.2.2.2.2.2.2.1.2.2.1
    refine ⟨nI p, fun S1 => S1 = S, ?_, ?_⟩
    · refine oX9_count (fun X hX hE => ?_)
      refine g_iload_n (i := 1) hX dX9_count_0 rfl rfl ?_
      refine g_tableIn (off := 68) (tgt := 69) hX dX9_count_1 (by decide) (by decide) (by decide) (by decide) ?_
      refine g_aload_n (i := 0) hX dX9_count_69 rfl rfl ?_
      refine fX9_92 hX dX9_count_70 ?_
      refine g_iret (st := []) hX hE rfl dX9_count_73 (⟨_, rfl, p2, rfl⟩)
    · rintro S1 rfl
      refine oX10_count (fun X hX hE => ?_)
      refine g_aload_n (i := 0) hX dX10_count_0 rfl rfl ?_
      refine g_iconst hX dX10_count_1 ic0 ?_
      refine pX10_78 hX dX10_count_2 ?_
      refine g_iconst hX dX10_count_5 ic0 ?_
      refine g_istore_n (i := 2) hX dX10_count_6 rfl (by decide) rfl ?_
      refine g_iload_n (i := 1) hX dX10_count_7 rfl rfl ?_
      refine g_tableIn (off := 119) (tgt := 127) hX dX10_count_8 (by decide) (by decide) (by decide) (by decide) ?_
      refine g_aload_n (i := 0) hX dX10_count_127 rfl rfl ?_
      refine fX10_72 hX dX10_count_128 ?_
      refine g_iret (st := []) hX hE rfl dX10_count_131 (⟨_, rfl, p3, hR.thrown⟩)
  · obtain ⟨n, n1, n2, n3, n4⟩ := hR.2.2.2.2.2.1
    refine ⟨nI n, fun S1 => S1 = S, ?_, ?_⟩
    · refine oX9_count (fun X hX hE => ?_)
      refine g_iload_n (i := 1) hX dX9_count_0 rfl rfl ?_
      refine g_tableIn (off := 73) (tgt := 74) hX dX9_count_1 (by decide) (by decide) (by decide) (by decide) ?_
      refine g_aload_n (i := 0) hX dX9_count_74 rfl rfl ?_
      refine fX9_31 hX dX9_count_75 ?_
      refine fX9_173 hX dX9_count_78 ?_
      refine g_iret (st := []) hX hE rfl dX9_count_81 (⟨_, rfl, n2, rfl⟩)
    · rintro S1 rfl
      refine oX10_count (fun X hX hE => ?_)
      refine g_aload_n (i := 0) hX dX10_count_0 rfl rfl ?_
      refine g_iconst hX dX10_count_1 ic0 ?_
      refine pX10_78 hX dX10_count_2 ?_
      refine g_iconst hX dX10_count_5 ic0 ?_
      refine g_istore_n (i := 2) hX dX10_count_6 rfl (by decide) rfl ?_
      refine g_iload_n (i := 1) hX dX10_count_7 rfl rfl ?_
      refine g_tableIn (off := 124) (tgt := 132) hX dX10_count_8 (by decide) (by decide) (by decide) (by decide) ?_
      refine g_aload_n (i := 0) hX dX10_count_132 rfl rfl ?_
      refine fX10_132 hX dX10_count_133 ?_
      refine g_iret (st := []) hX hE rfl dX10_count_136 (⟨_, rfl, n3, hR.thrown⟩)
