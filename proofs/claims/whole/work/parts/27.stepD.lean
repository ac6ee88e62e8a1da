theorem l_add (x y : Int32) : (x.toInt64 + y.toInt64).toInt = x.toInt + y.toInt := by
  have := i_lo x; have := i_hi x; have := i_lo y; have := i_hi y
  rw [Int64.toInt_add, l_i, l_i]; exact Int.bmod_eq_of_le (by omega) (by omega)
def cpf (f : Nat → Int32) (A B lo hi : Nat) : Nat → Int32 := fun q => if B + lo ≤ q ∧ q < B + hi then f (A + (q - B)) else f q
theorem cpf_up (S : St) (f : Nat → Int32) (A B k : Nat) : pI (pR S 70 (cpf f A B 0 k)) 70 (B + k) (f (A + k)) = pR S 70 (cpf f A B 0 (k + 1)) := by
  show pR (pR S 70 _) 70 (upd ((pR S 70 _).1 70) (B + k) _) = _
  rw [pR_self, pR_pR]
  congr 1
  funext q
  by_cases h : q = B + k
  · subst h
    rw [upd_self]
    unfold cpf
    rw [if_pos (by omega)]
    congr 1; omega
  · rw [upd_ne _ _ h]
    unfold cpf
    by_cases h1 : B + 0 ≤ q ∧ q < B + k
    · rw [if_pos h1, if_pos (by omega)]
    · rw [if_neg h1, if_neg (by omega)]
theorem cpf_dn (S : St) (f : Nat → Int32) (A B n k : Nat) (hk : k < n) : pI (pR S 70 (cpf f A B (n - k) n)) 70 (B + (n - 1 - k)) (f (A + (n - 1 - k))) = pR S 70 (cpf f A B (n - (k + 1)) n) := by
  show pR (pR S 70 _) 70 (upd ((pR S 70 _).1 70) (B + (n - 1 - k)) _) = _
  rw [pR_self, pR_pR]
  congr 1
  funext q
  by_cases h : q = B + (n - 1 - k)
  · subst h
    rw [upd_self]
    unfold cpf
    rw [if_pos (by omega)]
    congr 1; omega
  · rw [upd_ne _ _ h]
    unfold cpf
    by_cases h1 : B + (n - k) ≤ q ∧ q < B + n
    · rw [if_pos h1, if_pos (by omega)]
    · rw [if_neg h1, if_neg (by omega)]
theorem nI_60b (b j k : Nat) : (60 : Int32) * nI b + nI j + nI k = nI (60 * b + j + k) := by rw [nI_60, nI_add2]
theorem step_copy {Γ : GG} (x1 x2 x3 x4 x5 : Int32) : Step (fun S P => kX9_copy Γ [.ref (Γ.1 48), .int x1, .int x2, .int x3, .int x4, .int x5] S P) (fun S P => kX10_copy Γ [.ref (Γ.1 67), .int x1, .int x2, .int x3, .int x4, .int x5] S P) := by
  intro S hR
  by_cases h1 : inB x1 8
  case neg =>
    refine ⟨-1000001, fun S1 => S1 = S, ?_, ?_⟩
    · refine oX9_copy (fun X hX hE => ?_)
      refine g_iload_n (i := 1) hX dX9_copy_0 rfl rfl ?_
      refine g_bipush hX dX9_copy_1 bp8 ?_
      refine sX9_96 hX ⟨Nat.le_of_ble_eq_true rfl, Nat.le_of_ble_eq_true rfl⟩ (Nat.le_of_ble_eq_true rfl) dX9_copy_3 (isB_f (by decide) h1) ?_
      refine g_if_eq (tgt := 18) hX dX9_copy_6 (by decide) (fun _ => ?_) (fun h9 => absurd (rfl) h9)
      refine g_ldc hX ccX9_100 dX9_copy_18 ?_
      refine g_iret (st := []) hX hE rfl dX9_copy_20 (⟨_, rfl, rfl, rfl⟩)
    · rintro S1 rfl
      refine oX10_copy (fun X hX hE => ?_)
      refine g_aload_n (i := 0) hX dX10_copy_0 rfl rfl ?_
      refine g_iconst hX dX10_copy_1 ic0 ?_
      refine pX10_78 hX dX10_copy_2 ?_
      refine g_iload_n (i := 1) hX dX10_copy_5 rfl rfl ?_
      refine sX10_91 hX ⟨Nat.le_of_ble_eq_true rfl, Nat.le_of_ble_eq_true rfl⟩ (Nat.le_of_ble_eq_true rfl) dX10_copy_6 (c_isSheet_f h1) ?_
      refine g_if_eq (tgt := 19) hX dX10_copy_9 (by decide) (fun _ => ?_) (fun h9 => absurd (rfl) h9)
      refine g_ldc hX ccX10_97 dX10_copy_19 ?_
      refine g_iret (st := []) hX hE rfl dX10_copy_21 (⟨_, rfl, rfl, hR.thrown⟩)
  obtain ⟨a, ha, rfl⟩ := h1
  by_cases h3 : inB x3 8
  case neg =>
    refine ⟨-1000001, fun S1 => S1 = S, ?_, ?_⟩
    · refine oX9_copy (fun X hX hE => ?_)
      refine g_iload_n (i := 1) hX dX9_copy_0 rfl rfl ?_
      refine g_bipush hX dX9_copy_1 bp8 ?_
      refine sX9_96 hX ⟨Nat.le_of_ble_eq_true rfl, Nat.le_of_ble_eq_true rfl⟩ (Nat.le_of_ble_eq_true rfl) dX9_copy_3 (isB_t ha (by decide)) ?_
      refine g_if_eq (tgt := 18) hX dX9_copy_6 (by decide) (fun h9 => absurd h9 ((by decide))) (fun _ => ?_)
      refine g_iload_n (i := 3) hX dX9_copy_9 rfl rfl ?_
      refine g_bipush hX dX9_copy_10 bp8 ?_
      refine sX9_96 hX ⟨Nat.le_of_ble_eq_true rfl, Nat.le_of_ble_eq_true rfl⟩ (Nat.le_of_ble_eq_true rfl) dX9_copy_12 (isB_f (by decide) h3) ?_
      refine g_if_ne (tgt := 21) hX dX9_copy_15 (by decide) (fun h9 => absurd (rfl) h9) (fun _ => ?_)
      refine g_ldc hX ccX9_100 dX9_copy_18 ?_
      refine g_iret (st := []) hX hE rfl dX9_copy_20 (⟨_, rfl, rfl, rfl⟩)
    · rintro S1 rfl
      refine oX10_copy (fun X hX hE => ?_)
      refine g_aload_n (i := 0) hX dX10_copy_0 rfl rfl ?_
      refine g_iconst hX dX10_copy_1 ic0 ?_
      refine pX10_78 hX dX10_copy_2 ?_
      refine g_iload_n (i := 1) hX dX10_copy_5 rfl rfl ?_
      refine sX10_91 hX ⟨Nat.le_of_ble_eq_true rfl, Nat.le_of_ble_eq_true rfl⟩ (Nat.le_of_ble_eq_true rfl) dX10_copy_6 (c_isSheet_t ha) ?_
      refine g_if_eq (tgt := 19) hX dX10_copy_9 (by decide) (fun h9 => absurd h9 ((by decide))) (fun _ => ?_)
      refine g_iload_n (i := 3) hX dX10_copy_12 rfl rfl ?_
      refine sX10_91 hX ⟨Nat.le_of_ble_eq_true rfl, Nat.le_of_ble_eq_true rfl⟩ (Nat.le_of_ble_eq_true rfl) dX10_copy_13 (c_isSheet_f h3) ?_
      refine g_if_ne (tgt := 22) hX dX10_copy_16 (by decide) (fun h9 => absurd (rfl) h9) (fun _ => ?_)
      refine g_ldc hX ccX10_97 dX10_copy_19 ?_
      refine g_iret (st := []) hX hE rfl dX10_copy_21 (⟨_, rfl, rfl, hR.thrown⟩)
  obtain ⟨b, hb, rfl⟩ := h3
  obtain ⟨za, za1, za2, za3, za4, za5⟩ := hR.1 a ha
  obtain ⟨zb, zb1, zb2, zb3, zb4, zb5⟩ := hR.1 b hb
  have hsa := isheet a ha
  have hsb := isheet b hb
  rcases za5 with ⟨m1, m2⟩ | ⟨m1, la, la1, la2, la3⟩
  · refine ⟨-1000010 - 1, fun S1 => S1 = pI S 48 15 1, ?_, ?_⟩
    · refine oX9_copy (fun X hX hE => ?_)
      refine g_iload_n (i := 1) hX dX9_copy_0 rfl rfl ?_
      refine g_bipush hX dX9_copy_1 bp8 ?_
      refine sX9_96 hX ⟨Nat.le_of_ble_eq_true rfl, Nat.le_of_ble_eq_true rfl⟩ (Nat.le_of_ble_eq_true rfl) dX9_copy_3 (isB_t ha (by decide)) ?_
      refine g_if_eq (tgt := 18) hX dX9_copy_6 (by decide) (fun h9 => absurd h9 ((by decide))) (fun _ => ?_)
      refine g_iload_n (i := 3) hX dX9_copy_9 rfl rfl ?_
      refine g_bipush hX dX9_copy_10 bp8 ?_
      refine sX9_96 hX ⟨Nat.le_of_ble_eq_true rfl, Nat.le_of_ble_eq_true rfl⟩ (Nat.le_of_ble_eq_true rfl) dX9_copy_12 (isB_t hb (by decide)) ?_
      refine g_if_ne (tgt := 21) hX dX9_copy_15 (by decide) (fun _ => ?_) (fun h9 => absurd h9 ((by decide)))
      refine g_aload_n (i := 0) hX dX9_copy_21 rfl rfl ?_
      refine fX9_11 hX dX9_copy_22 ?_
      refine g_iload_n (i := 1) hX dX9_copy_25 rfl rfl ?_
      refine g_aaloadN hX (show 49 < NC by decide) (Or.inl rfl) (show lay 49 = (2, 8, [0, 2, 4, 6, 8, 10, 12, 14]) by decide) rfl (ha) (by decide) (shh a ha) dX9_copy_26 ?_
      refine g_astore hX dX9_copy_27 (by decide) rfl ?_
      refine g_aload_n (i := 0) hX dX9_copy_29 rfl rfl ?_
      refine fX9_11 hX dX9_copy_30 ?_
      refine g_iload_n (i := 3) hX dX9_copy_33 rfl rfl ?_
      refine g_aaloadN hX (show 49 < NC by decide) (Or.inl rfl) (show lay 49 = (2, 8, [0, 2, 4, 6, 8, 10, 12, 14]) by decide) rfl (hb) (by decide) (shh b hb) dX9_copy_34 ?_
      refine g_astore hX dX9_copy_35 (by decide) rfl ?_
      refine g_aload hX dX9_copy_37 rfl ?_
      refine fX9_112 hX hsa dX9_copy_39 ?_
      refine g_if_ne (tgt := 53) hX dX9_copy_42 (by decide) (fun _ => ?_) (fun h9 => absurd h9 ((by rw [m1]; decide)))
      refine g_aload_n (i := 0) hX dX9_copy_53 rfl rfl ?_
      refine g_iconst hX dX9_copy_54 ic1 ?_
      refine sX9_101 hX ⟨Nat.le_of_ble_eq_true rfl, Nat.le_of_ble_eq_true rfl⟩ (Nat.le_of_ble_eq_true rfl) dX9_copy_55 (c_finding) ?_
      refine g_iret (st := []) hX hE rfl dX9_copy_58 (⟨_, rfl, rfl, rfl⟩)
    · rintro S1 rfl
      refine oX10_copy (fun X hX hE => ?_)
      refine g_aload_n (i := 0) hX dX10_copy_0 rfl rfl ?_
      refine g_iconst hX dX10_copy_1 ic0 ?_
      refine pX10_78 hX dX10_copy_2 ?_
      refine g_iload_n (i := 1) hX dX10_copy_5 rfl rfl ?_
      refine sX10_91 hX ⟨Nat.le_of_ble_eq_true rfl, Nat.le_of_ble_eq_true rfl⟩ (Nat.le_of_ble_eq_true rfl) dX10_copy_6 (c_isSheet_t ha) ?_
      refine g_if_eq (tgt := 19) hX dX10_copy_9 (by decide) (fun h9 => absurd h9 ((by decide))) (fun _ => ?_)
      refine g_iload_n (i := 3) hX dX10_copy_12 rfl rfl ?_
      refine sX10_91 hX ⟨Nat.le_of_ble_eq_true rfl, Nat.le_of_ble_eq_true rfl⟩ (Nat.le_of_ble_eq_true rfl) dX10_copy_13 (c_isSheet_t hb) ?_
      refine g_if_ne (tgt := 22) hX dX10_copy_16 (by decide) (fun _ => ?_) (fun h9 => absurd h9 ((by decide)))
      refine g_aload_n (i := 0) hX dX10_copy_22 rfl rfl ?_
      refine g_iconst hX dX10_copy_23 ic0 ?_
      refine pX10_81 hX dX10_copy_24 ?_
      refine g_aload_n (i := 0) hX dX10_copy_27 rfl rfl ?_
      refine fX10_7 hX dX10_copy_28 ?_
      refine g_iload_n (i := 1) hX dX10_copy_31 rfl rfl ?_
      refine g_ialoadN hX (ia68) rfl (ha) (by first | decide | assumption | omega) dX10_copy_32 ?_
      refine g_if_lt (tgt := 45) hX dX10_copy_33 (by decide) (fun _ => ?_) (fun h9 => absurd ((show S.1 68 a < 0 by rw [m2]; decide)) h9)
      refine g_aload_n (i := 0) hX dX10_copy_45 rfl rfl ?_
      refine g_iconst hX dX10_copy_46 ic1 ?_
      refine sX10_98 hX ⟨Nat.le_of_ble_eq_true rfl, Nat.le_of_ble_eq_true rfl⟩ (Nat.le_of_ble_eq_true rfl) dX10_copy_47 (c_findingR) ?_
      refine g_iret (st := []) hX hE rfl dX10_copy_50 (⟨_, rfl, rfl, hR.find (x := 1) ((((Fq.rf.I (by decide)).I (by decide)).I (by decide)).I (by decide)) rfl rfl⟩)
  rcases zb5 with ⟨n1, n2⟩ | ⟨n1, lb, lb1, lb2, lb3⟩
  · refine ⟨-1000010 - 1, fun S1 => S1 = pI S 48 15 1, ?_, ?_⟩
    · refine oX9_copy (fun X hX hE => ?_)
      refine g_iload_n (i := 1) hX dX9_copy_0 rfl rfl ?_
      refine g_bipush hX dX9_copy_1 bp8 ?_
      refine sX9_96 hX ⟨Nat.le_of_ble_eq_true rfl, Nat.le_of_ble_eq_true rfl⟩ (Nat.le_of_ble_eq_true rfl) dX9_copy_3 (isB_t ha (by decide)) ?_
      refine g_if_eq (tgt := 18) hX dX9_copy_6 (by decide) (fun h9 => absurd h9 ((by decide))) (fun _ => ?_)
      refine g_iload_n (i := 3) hX dX9_copy_9 rfl rfl ?_
      refine g_bipush hX dX9_copy_10 bp8 ?_
      refine sX9_96 hX ⟨Nat.le_of_ble_eq_true rfl, Nat.le_of_ble_eq_true rfl⟩ (Nat.le_of_ble_eq_true rfl) dX9_copy_12 (isB_t hb (by decide)) ?_
      refine g_if_ne (tgt := 21) hX dX9_copy_15 (by decide) (fun _ => ?_) (fun h9 => absurd h9 ((by decide)))
      refine g_aload_n (i := 0) hX dX9_copy_21 rfl rfl ?_
      refine fX9_11 hX dX9_copy_22 ?_
      refine g_iload_n (i := 1) hX dX9_copy_25 rfl rfl ?_
      refine g_aaloadN hX (show 49 < NC by decide) (Or.inl rfl) (show lay 49 = (2, 8, [0, 2, 4, 6, 8, 10, 12, 14]) by decide) rfl (ha) (by decide) (shh a ha) dX9_copy_26 ?_
      refine g_astore hX dX9_copy_27 (by decide) rfl ?_
      refine g_aload_n (i := 0) hX dX9_copy_29 rfl rfl ?_
      refine fX9_11 hX dX9_copy_30 ?_
      refine g_iload_n (i := 3) hX dX9_copy_33 rfl rfl ?_
      refine g_aaloadN hX (show 49 < NC by decide) (Or.inl rfl) (show lay 49 = (2, 8, [0, 2, 4, 6, 8, 10, 12, 14]) by decide) rfl (hb) (by decide) (shh b hb) dX9_copy_34 ?_
      refine g_astore hX dX9_copy_35 (by decide) rfl ?_
      refine g_aload hX dX9_copy_37 rfl ?_
      refine fX9_112 hX hsa dX9_copy_39 ?_
      refine g_if_ne (tgt := 53) hX dX9_copy_42 (by decide) (fun h9 => absurd (m1) h9) (fun _ => ?_)
      refine g_aload hX dX9_copy_45 rfl ?_
      refine fX9_112 hX hsb dX9_copy_47 ?_
      refine g_if_eq (tgt := 59) hX dX9_copy_50 (by decide) (fun h9 => absurd h9 ((by rw [n1]; decide))) (fun _ => ?_)
      refine g_aload_n (i := 0) hX dX9_copy_53 rfl rfl ?_
      refine g_iconst hX dX9_copy_54 ic1 ?_
      refine sX9_101 hX ⟨Nat.le_of_ble_eq_true rfl, Nat.le_of_ble_eq_true rfl⟩ (Nat.le_of_ble_eq_true rfl) dX9_copy_55 (c_finding) ?_
      refine g_iret (st := []) hX hE rfl dX9_copy_58 (⟨_, rfl, rfl, rfl⟩)
    · rintro S1 rfl
      refine oX10_copy (fun X hX hE => ?_)
      refine g_aload_n (i := 0) hX dX10_copy_0 rfl rfl ?_
      refine g_iconst hX dX10_copy_1 ic0 ?_
      refine pX10_78 hX dX10_copy_2 ?_
      refine g_iload_n (i := 1) hX dX10_copy_5 rfl rfl ?_
      refine sX10_91 hX ⟨Nat.le_of_ble_eq_true rfl, Nat.le_of_ble_eq_true rfl⟩ (Nat.le_of_ble_eq_true rfl) dX10_copy_6 (c_isSheet_t ha) ?_
      refine g_if_eq (tgt := 19) hX dX10_copy_9 (by decide) (fun h9 => absurd h9 ((by decide))) (fun _ => ?_)
      refine g_iload_n (i := 3) hX dX10_copy_12 rfl rfl ?_
      refine sX10_91 hX ⟨Nat.le_of_ble_eq_true rfl, Nat.le_of_ble_eq_true rfl⟩ (Nat.le_of_ble_eq_true rfl) dX10_copy_13 (c_isSheet_t hb) ?_
      refine g_if_ne (tgt := 22) hX dX10_copy_16 (by decide) (fun _ => ?_) (fun h9 => absurd h9 ((by decide)))
      refine g_aload_n (i := 0) hX dX10_copy_22 rfl rfl ?_
      refine g_iconst hX dX10_copy_23 ic0 ?_
      refine pX10_81 hX dX10_copy_24 ?_
      refine g_aload_n (i := 0) hX dX10_copy_27 rfl rfl ?_
      refine fX10_7 hX dX10_copy_28 ?_
      refine g_iload_n (i := 1) hX dX10_copy_31 rfl rfl ?_
      refine g_ialoadN hX (ia68) rfl (ha) (by first | decide | assumption | omega) dX10_copy_32 ?_
      refine g_if_lt (tgt := 45) hX dX10_copy_33 (by decide) (fun h9 => absurd h9 ((show ¬ S.1 68 a < 0 by rw [la3]; exact nI_pos (by omega)))) (fun _ => ?_)
      refine g_aload_n (i := 0) hX dX10_copy_36 rfl rfl ?_
      refine fX10_7 hX dX10_copy_37 ?_
      refine g_iload_n (i := 3) hX dX10_copy_40 rfl rfl ?_
      refine g_ialoadN hX (ia68) rfl (hb) (by first | decide | assumption | omega) dX10_copy_41 ?_
      refine g_if_ge (tgt := 51) hX dX10_copy_42 (by decide) (fun h9 => absurd h9 ((show ¬ 0 ≤ S.1 68 b by rw [n2]; decide))) (fun _ => ?_)
      refine g_aload_n (i := 0) hX dX10_copy_45 rfl rfl ?_
      refine g_iconst hX dX10_copy_46 ic1 ?_
      refine sX10_98 hX ⟨Nat.le_of_ble_eq_true rfl, Nat.le_of_ble_eq_true rfl⟩ (Nat.le_of_ble_eq_true rfl) dX10_copy_47 (c_findingR) ?_
      refine g_iret (st := []) hX hE rfl dX10_copy_50 (⟨_, rfl, rfl, hR.find (x := 1) ((((Fq.rf.I (by decide)).I (by decide)).I (by decide)).I (by decide)) rfl rfl⟩)
  by_cases hlab : la = lb
  case neg =>
    have hne : ¬ nI la = nI lb := nI_ne (by omega) (by omega) hlab
    refine ⟨-1000010 - 5, fun S1 => S1 = pI S 48 15 5, ?_, ?_⟩
    · refine oX9_copy (fun X hX hE => ?_)
      refine g_iload_n (i := 1) hX dX9_copy_0 rfl rfl ?_
      refine g_bipush hX dX9_copy_1 bp8 ?_
      refine sX9_96 hX ⟨Nat.le_of_ble_eq_true rfl, Nat.le_of_ble_eq_true rfl⟩ (Nat.le_of_ble_eq_true rfl) dX9_copy_3 (isB_t ha (by decide)) ?_
      refine g_if_eq (tgt := 18) hX dX9_copy_6 (by decide) (fun h9 => absurd h9 ((by decide))) (fun _ => ?_)
      refine g_iload_n (i := 3) hX dX9_copy_9 rfl rfl ?_
      refine g_bipush hX dX9_copy_10 bp8 ?_
      refine sX9_96 hX ⟨Nat.le_of_ble_eq_true rfl, Nat.le_of_ble_eq_true rfl⟩ (Nat.le_of_ble_eq_true rfl) dX9_copy_12 (isB_t hb (by decide)) ?_
      refine g_if_ne (tgt := 21) hX dX9_copy_15 (by decide) (fun _ => ?_) (fun h9 => absurd h9 ((by decide)))
      refine g_aload_n (i := 0) hX dX9_copy_21 rfl rfl ?_
      refine fX9_11 hX dX9_copy_22 ?_
      refine g_iload_n (i := 1) hX dX9_copy_25 rfl rfl ?_
      refine g_aaloadN hX (show 49 < NC by decide) (Or.inl rfl) (show lay 49 = (2, 8, [0, 2, 4, 6, 8, 10, 12, 14]) by decide) rfl (ha) (by decide) (shh a ha) dX9_copy_26 ?_
      refine g_astore hX dX9_copy_27 (by decide) rfl ?_
      refine g_aload_n (i := 0) hX dX9_copy_29 rfl rfl ?_
      refine fX9_11 hX dX9_copy_30 ?_
      refine g_iload_n (i := 3) hX dX9_copy_33 rfl rfl ?_
      refine g_aaloadN hX (show 49 < NC by decide) (Or.inl rfl) (show lay 49 = (2, 8, [0, 2, 4, 6, 8, 10, 12, 14]) by decide) rfl (hb) (by decide) (shh b hb) dX9_copy_34 ?_
      refine g_astore hX dX9_copy_35 (by decide) rfl ?_
      refine g_aload hX dX9_copy_37 rfl ?_
      refine fX9_112 hX hsa dX9_copy_39 ?_
      refine g_if_ne (tgt := 53) hX dX9_copy_42 (by decide) (fun h9 => absurd (m1) h9) (fun _ => ?_)
      refine g_aload hX dX9_copy_45 rfl ?_
      refine fX9_112 hX hsb dX9_copy_47 ?_
      refine g_if_eq (tgt := 59) hX dX9_copy_50 (by decide) (fun _ => ?_) (fun h9 => absurd (n1) h9)
      refine g_aload hX dX9_copy_59 rfl ?_
      refine fX9_122 hX hsa dX9_copy_61 ?_
      refine g_aload hX dX9_copy_64 rfl ?_
      refine fX9_122 hX hsb dX9_copy_66 ?_
      refine g_icmp_eq (tgt := 78) hX dX9_copy_69 (by decide) (fun h9 => absurd h9 ((by rw [la2, lb2]; exact hne))) (fun _ => ?_)
      refine g_aload_n (i := 0) hX dX9_copy_72 rfl rfl ?_
      refine g_iconst hX dX9_copy_73 ic5 ?_
      refine sX9_101 hX ⟨Nat.le_of_ble_eq_true rfl, Nat.le_of_ble_eq_true rfl⟩ (Nat.le_of_ble_eq_true rfl) dX9_copy_74 (c_finding) ?_
      refine g_iret (st := []) hX hE rfl dX9_copy_77 (⟨_, rfl, rfl, rfl⟩)
    · rintro S1 rfl
      refine oX10_copy (fun X hX hE => ?_)
      refine g_aload_n (i := 0) hX dX10_copy_0 rfl rfl ?_
      refine g_iconst hX dX10_copy_1 ic0 ?_
      refine pX10_78 hX dX10_copy_2 ?_
      refine g_iload_n (i := 1) hX dX10_copy_5 rfl rfl ?_
      refine sX10_91 hX ⟨Nat.le_of_ble_eq_true rfl, Nat.le_of_ble_eq_true rfl⟩ (Nat.le_of_ble_eq_true rfl) dX10_copy_6 (c_isSheet_t ha) ?_
      refine g_if_eq (tgt := 19) hX dX10_copy_9 (by decide) (fun h9 => absurd h9 ((by decide))) (fun _ => ?_)
      refine g_iload_n (i := 3) hX dX10_copy_12 rfl rfl ?_
      refine sX10_91 hX ⟨Nat.le_of_ble_eq_true rfl, Nat.le_of_ble_eq_true rfl⟩ (Nat.le_of_ble_eq_true rfl) dX10_copy_13 (c_isSheet_t hb) ?_
      refine g_if_ne (tgt := 22) hX dX10_copy_16 (by decide) (fun _ => ?_) (fun h9 => absurd h9 ((by decide)))
      refine g_aload_n (i := 0) hX dX10_copy_22 rfl rfl ?_
      refine g_iconst hX dX10_copy_23 ic0 ?_
      refine pX10_81 hX dX10_copy_24 ?_
      refine g_aload_n (i := 0) hX dX10_copy_27 rfl rfl ?_
      refine fX10_7 hX dX10_copy_28 ?_
      refine g_iload_n (i := 1) hX dX10_copy_31 rfl rfl ?_
      refine g_ialoadN hX (ia68) rfl (ha) (by first | decide | assumption | omega) dX10_copy_32 ?_
      refine g_if_lt (tgt := 45) hX dX10_copy_33 (by decide) (fun h9 => absurd h9 ((show ¬ S.1 68 a < 0 by rw [la3]; exact nI_pos (by omega)))) (fun _ => ?_)
      refine g_aload_n (i := 0) hX dX10_copy_36 rfl rfl ?_
      refine fX10_7 hX dX10_copy_37 ?_
      refine g_iload_n (i := 3) hX dX10_copy_40 rfl rfl ?_
      refine g_ialoadN hX (ia68) rfl (hb) (by first | decide | assumption | omega) dX10_copy_41 ?_
      refine g_if_ge (tgt := 51) hX dX10_copy_42 (by decide) (fun _ => ?_) (fun h9 => absurd ((show 0 ≤ S.1 68 b by rw [lb3]; exact nI_pos' (by omega))) h9)
      refine g_aload_n (i := 0) hX dX10_copy_51 rfl rfl ?_
      refine fX10_7 hX dX10_copy_52 ?_
      refine g_iload_n (i := 1) hX dX10_copy_55 rfl rfl ?_
      refine g_ialoadN hX (ia68) rfl (ha) (by first | decide | assumption | omega) dX10_copy_56 ?_
      refine g_aload_n (i := 0) hX dX10_copy_57 rfl rfl ?_
      refine fX10_7 hX dX10_copy_58 ?_
      refine g_iload_n (i := 3) hX dX10_copy_61 rfl rfl ?_
      refine g_ialoadN hX (ia68) rfl (hb) (by first | decide | assumption | omega) dX10_copy_62 ?_
      refine g_icmp_eq (tgt := 72) hX dX10_copy_63 (by decide) (fun h9 => absurd h9 ((show ¬ S.1 68 a = S.1 68 b by rw [la3, lb3]; exact hne))) (fun _ => ?_)
      refine g_aload_n (i := 0) hX dX10_copy_66 rfl rfl ?_
      refine g_iconst hX dX10_copy_67 ic5 ?_
      refine sX10_98 hX ⟨Nat.le_of_ble_eq_true rfl, Nat.le_of_ble_eq_true rfl⟩ (Nat.le_of_ble_eq_true rfl) dX10_copy_68 (c_findingR) ?_
      refine g_iret (st := []) hX hE rfl dX10_copy_71 (⟨_, rfl, rfl, hR.find (x := 5) ((((Fq.rf.I (by decide)).I (by decide)).I (by decide)).I (by decide)) rfl rfl⟩)
  subst hlab
  by_cases hpl : places x2 x5 za ∧ places x4 x5 zb
  case neg =>
    refine ⟨-1000010 - 2, fun S1 => S1 = pI S 48 15 2, ?_, ?_⟩
    · refine oX9_copy (fun X hX hE => ?_)
      by_cases hp1 : places x2 x5 za
      · have hp2 : ¬ places x4 x5 zb := fun q => hpl ⟨hp1, q⟩
        obtain ⟨i, n, rfl, rfl, hin⟩ := hp1
        refine g_iload_n (i := 1) hX dX9_copy_0 rfl rfl ?_
        refine g_bipush hX dX9_copy_1 bp8 ?_
        refine sX9_96 hX ⟨Nat.le_of_ble_eq_true rfl, Nat.le_of_ble_eq_true rfl⟩ (Nat.le_of_ble_eq_true rfl) dX9_copy_3 (isB_t ha (by decide)) ?_
        refine g_if_eq (tgt := 18) hX dX9_copy_6 (by decide) (fun h9 => absurd h9 ((by decide))) (fun _ => ?_)
        refine g_iload_n (i := 3) hX dX9_copy_9 rfl rfl ?_
        refine g_bipush hX dX9_copy_10 bp8 ?_
        refine sX9_96 hX ⟨Nat.le_of_ble_eq_true rfl, Nat.le_of_ble_eq_true rfl⟩ (Nat.le_of_ble_eq_true rfl) dX9_copy_12 (isB_t hb (by decide)) ?_
        refine g_if_ne (tgt := 21) hX dX9_copy_15 (by decide) (fun _ => ?_) (fun h9 => absurd h9 ((by decide)))
        refine g_aload_n (i := 0) hX dX9_copy_21 rfl rfl ?_
        refine fX9_11 hX dX9_copy_22 ?_
        refine g_iload_n (i := 1) hX dX9_copy_25 rfl rfl ?_
        refine g_aaloadN hX (show 49 < NC by decide) (Or.inl rfl) (show lay 49 = (2, 8, [0, 2, 4, 6, 8, 10, 12, 14]) by decide) rfl (ha) (by decide) (shh a ha) dX9_copy_26 ?_
        refine g_astore hX dX9_copy_27 (by decide) rfl ?_
        refine g_aload_n (i := 0) hX dX9_copy_29 rfl rfl ?_
        refine fX9_11 hX dX9_copy_30 ?_
        refine g_iload_n (i := 3) hX dX9_copy_33 rfl rfl ?_
        refine g_aaloadN hX (show 49 < NC by decide) (Or.inl rfl) (show lay 49 = (2, 8, [0, 2, 4, 6, 8, 10, 12, 14]) by decide) rfl (hb) (by decide) (shh b hb) dX9_copy_34 ?_
        refine g_astore hX dX9_copy_35 (by decide) rfl ?_
        refine g_aload hX dX9_copy_37 rfl ?_
        refine fX9_112 hX hsa dX9_copy_39 ?_
        refine g_if_ne (tgt := 53) hX dX9_copy_42 (by decide) (fun h9 => absurd (m1) h9) (fun _ => ?_)
        refine g_aload hX dX9_copy_45 rfl ?_
        refine fX9_112 hX hsb dX9_copy_47 ?_
        refine g_if_eq (tgt := 59) hX dX9_copy_50 (by decide) (fun _ => ?_) (fun h9 => absurd (n1) h9)
        refine g_aload hX dX9_copy_59 rfl ?_
        refine fX9_122 hX hsa dX9_copy_61 ?_
        refine g_aload hX dX9_copy_64 rfl ?_
        refine fX9_122 hX hsb dX9_copy_66 ?_
        refine g_icmp_eq (tgt := 78) hX dX9_copy_69 (by decide) (fun _ => ?_) (fun h9 => absurd ((by rw [la2, lb2])) h9)
        refine g_aload hX dX9_copy_78 rfl ?_
        refine g_iload_n (i := 2) hX dX9_copy_80 rfl rfl ?_
        refine g_iload hX dX9_copy_81 rfl ?_
        refine sX9_115 hX hsa ⟨Nat.le_of_ble_eq_true rfl, Nat.le_of_ble_eq_true rfl⟩ (Nat.le_of_ble_eq_true rfl) dX9_copy_83 (c_hasPlaces_t hsa za2 za1 hin) ?_
        refine g_if_eq (tgt := 101) hX dX9_copy_86 (by decide) (fun h9 => absurd h9 ((by decide))) (fun _ => ?_)
        refine g_aload hX dX9_copy_89 rfl ?_
        refine g_iload hX dX9_copy_91 rfl ?_
        refine g_iload hX dX9_copy_93 rfl ?_
        refine sX9_115 hX hsb ⟨Nat.le_of_ble_eq_true rfl, Nat.le_of_ble_eq_true rfl⟩ (Nat.le_of_ble_eq_true rfl) dX9_copy_95 (c_hasPlaces_f hsb zb2 zb1 hp2) ?_
        refine g_if_ne (tgt := 107) hX dX9_copy_98 (by decide) (fun h9 => absurd (rfl) h9) (fun _ => ?_)
        refine g_aload_n (i := 0) hX dX9_copy_101 rfl rfl ?_
        refine g_iconst hX dX9_copy_102 ic2 ?_
        refine sX9_101 hX ⟨Nat.le_of_ble_eq_true rfl, Nat.le_of_ble_eq_true rfl⟩ (Nat.le_of_ble_eq_true rfl) dX9_copy_103 (c_finding) ?_
        refine g_iret (st := []) hX hE rfl dX9_copy_106 (⟨_, rfl, rfl, rfl⟩)
      · refine g_iload_n (i := 1) hX dX9_copy_0 rfl rfl ?_
        refine g_bipush hX dX9_copy_1 bp8 ?_
        refine sX9_96 hX ⟨Nat.le_of_ble_eq_true rfl, Nat.le_of_ble_eq_true rfl⟩ (Nat.le_of_ble_eq_true rfl) dX9_copy_3 (isB_t ha (by decide)) ?_
        refine g_if_eq (tgt := 18) hX dX9_copy_6 (by decide) (fun h9 => absurd h9 ((by decide))) (fun _ => ?_)
        refine g_iload_n (i := 3) hX dX9_copy_9 rfl rfl ?_
        refine g_bipush hX dX9_copy_10 bp8 ?_
        refine sX9_96 hX ⟨Nat.le_of_ble_eq_true rfl, Nat.le_of_ble_eq_true rfl⟩ (Nat.le_of_ble_eq_true rfl) dX9_copy_12 (isB_t hb (by decide)) ?_
        refine g_if_ne (tgt := 21) hX dX9_copy_15 (by decide) (fun _ => ?_) (fun h9 => absurd h9 ((by decide)))
        refine g_aload_n (i := 0) hX dX9_copy_21 rfl rfl ?_
        refine fX9_11 hX dX9_copy_22 ?_
        refine g_iload_n (i := 1) hX dX9_copy_25 rfl rfl ?_
        refine g_aaloadN hX (show 49 < NC by decide) (Or.inl rfl) (show lay 49 = (2, 8, [0, 2, 4, 6, 8, 10, 12, 14]) by decide) rfl (ha) (by decide) (shh a ha) dX9_copy_26 ?_
        refine g_astore hX dX9_copy_27 (by decide) rfl ?_
        refine g_aload_n (i := 0) hX dX9_copy_29 rfl rfl ?_
        refine fX9_11 hX dX9_copy_30 ?_
        refine g_iload_n (i := 3) hX dX9_copy_33 rfl rfl ?_
        refine g_aaloadN hX (show 49 < NC by decide) (Or.inl rfl) (show lay 49 = (2, 8, [0, 2, 4, 6, 8, 10, 12, 14]) by decide) rfl (hb) (by decide) (shh b hb) dX9_copy_34 ?_
        refine g_astore hX dX9_copy_35 (by decide) rfl ?_
        refine g_aload hX dX9_copy_37 rfl ?_
        refine fX9_112 hX hsa dX9_copy_39 ?_
        refine g_if_ne (tgt := 53) hX dX9_copy_42 (by decide) (fun h9 => absurd (m1) h9) (fun _ => ?_)
        refine g_aload hX dX9_copy_45 rfl ?_
        refine fX9_112 hX hsb dX9_copy_47 ?_
        refine g_if_eq (tgt := 59) hX dX9_copy_50 (by decide) (fun _ => ?_) (fun h9 => absurd (n1) h9)
        refine g_aload hX dX9_copy_59 rfl ?_
        refine fX9_122 hX hsa dX9_copy_61 ?_
        refine g_aload hX dX9_copy_64 rfl ?_
        refine fX9_122 hX hsb dX9_copy_66 ?_
        refine g_icmp_eq (tgt := 78) hX dX9_copy_69 (by decide) (fun _ => ?_) (fun h9 => absurd ((by rw [la2, lb2])) h9)
        refine g_aload hX dX9_copy_78 rfl ?_
        refine g_iload_n (i := 2) hX dX9_copy_80 rfl rfl ?_
        refine g_iload hX dX9_copy_81 rfl ?_
        refine sX9_115 hX hsa ⟨Nat.le_of_ble_eq_true rfl, Nat.le_of_ble_eq_true rfl⟩ (Nat.le_of_ble_eq_true rfl) dX9_copy_83 (c_hasPlaces_f hsa za2 za1 hp1) ?_
        refine g_if_eq (tgt := 101) hX dX9_copy_86 (by decide) (fun _ => ?_) (fun h9 => absurd (rfl) h9)
        refine g_aload_n (i := 0) hX dX9_copy_101 rfl rfl ?_
        refine g_iconst hX dX9_copy_102 ic2 ?_
        refine sX9_101 hX ⟨Nat.le_of_ble_eq_true rfl, Nat.le_of_ble_eq_true rfl⟩ (Nat.le_of_ble_eq_true rfl) dX9_copy_103 (c_finding) ?_
        refine g_iret (st := []) hX hE rfl dX9_copy_106 (⟨_, rfl, rfl, rfl⟩)
    · rintro S1 rfl
      refine oX10_copy (fun X hX hE => ?_)
      refine g_aload_n (i := 0) hX dX10_copy_0 rfl rfl ?_
      refine g_iconst hX dX10_copy_1 ic0 ?_
      refine pX10_78 hX dX10_copy_2 ?_
      refine g_iload_n (i := 1) hX dX10_copy_5 rfl rfl ?_
      refine sX10_91 hX ⟨Nat.le_of_ble_eq_true rfl, Nat.le_of_ble_eq_true rfl⟩ (Nat.le_of_ble_eq_true rfl) dX10_copy_6 (c_isSheet_t ha) ?_
      refine g_if_eq (tgt := 19) hX dX10_copy_9 (by decide) (fun h9 => absurd h9 ((by decide))) (fun _ => ?_)
      refine g_iload_n (i := 3) hX dX10_copy_12 rfl rfl ?_
      refine sX10_91 hX ⟨Nat.le_of_ble_eq_true rfl, Nat.le_of_ble_eq_true rfl⟩ (Nat.le_of_ble_eq_true rfl) dX10_copy_13 (c_isSheet_t hb) ?_
      refine g_if_ne (tgt := 22) hX dX10_copy_16 (by decide) (fun _ => ?_) (fun h9 => absurd h9 ((by decide)))
      refine g_aload_n (i := 0) hX dX10_copy_22 rfl rfl ?_
      refine g_iconst hX dX10_copy_23 ic0 ?_
      refine pX10_81 hX dX10_copy_24 ?_
      refine g_aload_n (i := 0) hX dX10_copy_27 rfl rfl ?_
      refine fX10_7 hX dX10_copy_28 ?_
      refine g_iload_n (i := 1) hX dX10_copy_31 rfl rfl ?_
      refine g_ialoadN hX (ia68) rfl (ha) (by first | decide | assumption | omega) dX10_copy_32 ?_
      refine g_if_lt (tgt := 45) hX dX10_copy_33 (by decide) (fun h9 => absurd h9 ((show ¬ S.1 68 a < 0 by rw [la3]; exact nI_pos (by omega)))) (fun _ => ?_)
      refine g_aload_n (i := 0) hX dX10_copy_36 rfl rfl ?_
      refine fX10_7 hX dX10_copy_37 ?_
      refine g_iload_n (i := 3) hX dX10_copy_40 rfl rfl ?_
      refine g_ialoadN hX (ia68) rfl (hb) (by first | decide | assumption | omega) dX10_copy_41 ?_
      refine g_if_ge (tgt := 51) hX dX10_copy_42 (by decide) (fun _ => ?_) (fun h9 => absurd ((show 0 ≤ S.1 68 b by rw [lb3]; exact nI_pos' (by omega))) h9)
      refine g_aload_n (i := 0) hX dX10_copy_51 rfl rfl ?_
      refine fX10_7 hX dX10_copy_52 ?_
      refine g_iload_n (i := 1) hX dX10_copy_55 rfl rfl ?_
      refine g_ialoadN hX (ia68) rfl (ha) (by first | decide | assumption | omega) dX10_copy_56 ?_
      refine g_aload_n (i := 0) hX dX10_copy_57 rfl rfl ?_
      refine fX10_7 hX dX10_copy_58 ?_
      refine g_iload_n (i := 3) hX dX10_copy_61 rfl rfl ?_
      refine g_ialoadN hX (ia68) rfl (hb) (by first | decide | assumption | omega) dX10_copy_62 ?_
      refine g_icmp_eq (tgt := 72) hX dX10_copy_63 (by decide) (fun _ => ?_) (fun h9 => absurd ((show S.1 68 a = S.1 68 b by rw [la3, lb3])) h9)
      have hbad : G Γ X (pI (pI (pI S 48 15 2) 67 0 0) 67 1 0) 121 [(0, .ref (Γ.1 67)), (1, .int (nI a)), (2, .int x2), (3, .int (nI b)), (4, .int x4), (5, .int x5)] [] := by
        refine g_aload_n (i := 0) hX dX10_copy_121 rfl rfl ?_
        refine g_iconst hX dX10_copy_122 ic2 ?_
        refine sX10_98 hX ⟨Nat.le_of_ble_eq_true rfl, Nat.le_of_ble_eq_true rfl⟩ (Nat.le_of_ble_eq_true rfl) dX10_copy_123 (c_findingR) ?_
        refine g_iret (st := []) hX hE rfl dX10_copy_126 (⟨_, rfl, rfl, hR.find (x := 2) ((((Fq.rf.I (by decide)).I (by decide)).I (by decide)).I (by decide)) rfl rfl⟩)
      refine g_iload_n (i := 2) hX dX10_copy_72 rfl rfl ?_
      refine g_if_lt (tgt := 121) hX dX10_copy_73 (by decide) (fun q1 => ?_) (fun q1 => ?_)
      · exact hbad
      refine g_iload hX dX10_copy_76 rfl ?_
      refine g_if_lt (tgt := 121) hX dX10_copy_78 (by decide) (fun q2 => ?_) (fun q2 => ?_)
      · exact hbad
      refine g_iload hX dX10_copy_81 rfl ?_
      refine g_if_lt (tgt := 121) hX dX10_copy_83 (by decide) (fun q3 => ?_) (fun q3 => ?_)
      · exact hbad
      refine g_iload_n (i := 2) hX dX10_copy_86 rfl rfl ?_
      refine g_i2l hX dX10_copy_87 ?_
      refine g_iload hX dX10_copy_88 rfl ?_
      refine g_i2l hX dX10_copy_90 ?_
      refine g_ladd hX dX10_copy_91 ?_
      refine g_aload_n (i := 0) hX dX10_copy_92 rfl rfl ?_
      refine fX10_13 hX dX10_copy_93 ?_
      refine g_iload_n (i := 1) hX dX10_copy_96 rfl rfl ?_
      refine g_ialoadN hX (ia69) rfl (ha) (by first | decide | assumption | omega) dX10_copy_97 ?_
      refine g_i2l hX dX10_copy_98 ?_
      refine g_lcmp hX dX10_copy_99 ?_
      refine g_if_gt (tgt := 121) hX dX10_copy_100 (by decide) (fun q4 => ?_) (fun q4 => ?_)
      · exact hbad
      refine g_iload hX dX10_copy_103 rfl ?_
      refine g_i2l hX dX10_copy_105 ?_
      refine g_iload hX dX10_copy_106 rfl ?_
      refine g_i2l hX dX10_copy_108 ?_
      refine g_ladd hX dX10_copy_109 ?_
      refine g_aload_n (i := 0) hX dX10_copy_110 rfl rfl ?_
      refine fX10_13 hX dX10_copy_111 ?_
      refine g_iload_n (i := 3) hX dX10_copy_114 rfl rfl ?_
      refine g_ialoadN hX (ia69) rfl (hb) (by first | decide | assumption | omega) dX10_copy_115 ?_
      refine g_i2l hX dX10_copy_116 ?_
      refine g_lcmp hX dX10_copy_117 ?_
      refine g_if_le (tgt := 127) hX dX10_copy_118 (by decide) (fun q5 => ?_) (fun q5 => ?_)
      · refine absurd ?_ hpl
        have ea : (pI (pI (pI S 48 15 2) 67 0 0) 67 1 0).1 69 a = nI za := za3
        have eb : (pI (pI (pI S 48 15 2) 67 0 0) 67 1 0).1 69 b = nI zb := zb3
        rw [lg_cmp_gt, l_lt, l_add, l_i, ea, nI_toInt (by omega)] at q4
        rw [lg_cmp_le, l_le, l_add, l_i, eb, nI_toInt (by omega)] at q5
        rw [i_lt, t0] at q1 q2 q3
        exact ⟨⟨x2.toInt.toNat, x5.toInt.toNat, nI_nat (by omega), nI_nat (by omega), by omega⟩, ⟨x4.toInt.toNat, x5.toInt.toNat, nI_nat (by omega), nI_nat (by omega), by omega⟩⟩
      · refine g_aload_n (i := 0) hX dX10_copy_121 rfl rfl ?_
        refine g_iconst hX dX10_copy_122 ic2 ?_
        refine sX10_98 hX ⟨Nat.le_of_ble_eq_true rfl, Nat.le_of_ble_eq_true rfl⟩ (Nat.le_of_ble_eq_true rfl) dX10_copy_123 (c_findingR) ?_
        refine g_iret (st := []) hX hE rfl dX10_copy_126 (⟨_, rfl, rfl, hR.find (x := 2) ((((Fq.rf.I (by decide)).I (by decide)).I (by decide)).I (by decide)) rfl rfl⟩)
  obtain ⟨⟨i, n, rfl, rfl, hin⟩, ⟨j, n', rfl, en, hjn⟩⟩ := hpl
  have hpn : places (nI j) (nI n) zb := ⟨j, n', rfl, en, hjn⟩
  have hnn : n' < 2 ^ 31 := by omega
  obtain rfl : n = n' := nI_inj (by omega) hnn en
  clear en hpn hnn
  have ci : (nI i).toNatClampNeg = i := nI_clamp (by omega)
  have cj : (nI j).toNatClampNeg = j := nI_clamp (by omega)
  have cn : (nI n).toNatClampNeg = n := nI_clamp (by omega)
  refine ⟨nI n, fun S1 => S1 = pI (pR S (2 * b + 1) (va_cpy (S.1 (2 * a + 1)) (S.1 (2 * b + 1)) (nI i).toNatClampNeg (nI j).toNatClampNeg (nI n).toNatClampNeg)) 48 15 0, ?_, ?_⟩
  · refine oX9_copy (fun X hX hE => ?_)
    refine g_iload_n (i := 1) hX dX9_copy_0 rfl rfl ?_
    refine g_bipush hX dX9_copy_1 bp8 ?_
    refine sX9_96 hX ⟨Nat.le_of_ble_eq_true rfl, Nat.le_of_ble_eq_true rfl⟩ (Nat.le_of_ble_eq_true rfl) dX9_copy_3 (isB_t ha (by decide)) ?_
    refine g_if_eq (tgt := 18) hX dX9_copy_6 (by decide) (fun h9 => absurd h9 ((by decide))) (fun _ => ?_)
    refine g_iload_n (i := 3) hX dX9_copy_9 rfl rfl ?_
    refine g_bipush hX dX9_copy_10 bp8 ?_
    refine sX9_96 hX ⟨Nat.le_of_ble_eq_true rfl, Nat.le_of_ble_eq_true rfl⟩ (Nat.le_of_ble_eq_true rfl) dX9_copy_12 (isB_t hb (by decide)) ?_
    refine g_if_ne (tgt := 21) hX dX9_copy_15 (by decide) (fun _ => ?_) (fun h9 => absurd h9 ((by decide)))
    refine g_aload_n (i := 0) hX dX9_copy_21 rfl rfl ?_
    refine fX9_11 hX dX9_copy_22 ?_
    refine g_iload_n (i := 1) hX dX9_copy_25 rfl rfl ?_
    refine g_aaloadN hX (show 49 < NC by decide) (Or.inl rfl) (show lay 49 = (2, 8, [0, 2, 4, 6, 8, 10, 12, 14]) by decide) rfl (ha) (by decide) (shh a ha) dX9_copy_26 ?_
    refine g_astore hX dX9_copy_27 (by decide) rfl ?_
    refine g_aload_n (i := 0) hX dX9_copy_29 rfl rfl ?_
    refine fX9_11 hX dX9_copy_30 ?_
    refine g_iload_n (i := 3) hX dX9_copy_33 rfl rfl ?_
    refine g_aaloadN hX (show 49 < NC by decide) (Or.inl rfl) (show lay 49 = (2, 8, [0, 2, 4, 6, 8, 10, 12, 14]) by decide) rfl (hb) (by decide) (shh b hb) dX9_copy_34 ?_
    refine g_astore hX dX9_copy_35 (by decide) rfl ?_
    refine g_aload hX dX9_copy_37 rfl ?_
    refine fX9_112 hX hsa dX9_copy_39 ?_
    refine g_if_ne (tgt := 53) hX dX9_copy_42 (by decide) (fun h9 => absurd (m1) h9) (fun _ => ?_)
    refine g_aload hX dX9_copy_45 rfl ?_
    refine fX9_112 hX hsb dX9_copy_47 ?_
    refine g_if_eq (tgt := 59) hX dX9_copy_50 (by decide) (fun _ => ?_) (fun h9 => absurd (n1) h9)
    refine g_aload hX dX9_copy_59 rfl ?_
    refine fX9_122 hX hsa dX9_copy_61 ?_
    refine g_aload hX dX9_copy_64 rfl ?_
    refine fX9_122 hX hsb dX9_copy_66 ?_
    refine g_icmp_eq (tgt := 78) hX dX9_copy_69 (by decide) (fun _ => ?_) (fun h9 => absurd ((by rw [la2, lb2])) h9)
    refine g_aload hX dX9_copy_78 rfl ?_
    refine g_iload_n (i := 2) hX dX9_copy_80 rfl rfl ?_
    refine g_iload hX dX9_copy_81 rfl ?_
    refine sX9_115 hX hsa ⟨Nat.le_of_ble_eq_true rfl, Nat.le_of_ble_eq_true rfl⟩ (Nat.le_of_ble_eq_true rfl) dX9_copy_83 (c_hasPlaces_t hsa za2 za1 hin) ?_
    refine g_if_eq (tgt := 101) hX dX9_copy_86 (by decide) (fun h9 => absurd h9 ((by decide))) (fun _ => ?_)
    refine g_aload hX dX9_copy_89 rfl ?_
    refine g_iload hX dX9_copy_91 rfl ?_
    refine g_iload hX dX9_copy_93 rfl ?_
    refine sX9_115 hX hsb ⟨Nat.le_of_ble_eq_true rfl, Nat.le_of_ble_eq_true rfl⟩ (Nat.le_of_ble_eq_true rfl) dX9_copy_95 (c_hasPlaces_t hsb zb2 zb1 hjn) ?_
    refine g_if_ne (tgt := 107) hX dX9_copy_98 (by decide) (fun _ => ?_) (fun h9 => absurd h9 ((by decide)))
    refine g_aload hX dX9_copy_107 rfl ?_
    refine fX9_125 hX hsa dX9_copy_109 ?_
    refine g_iload_n (i := 2) hX dX9_copy_112 rfl rfl ?_
    refine g_aload hX dX9_copy_113 rfl ?_
    refine fX9_125 hX hsb dX9_copy_115 ?_
    refine g_iload hX dX9_copy_118 rfl ?_
    refine g_iload hX dX9_copy_120 rfl ?_
    refine g_copy hX wlX9_128 cpnat cpsta cpini ((hsa).a1).1 ((hsb).a1).1 ((hsa).a1).2 ((hsb).a1).2 (nI_pos (by omega)) (nI_pos (by omega)) (nI_pos (by omega)) (by rw [ci, cn]; omega) (by rw [cj, cn]; omega) (Nat.le_of_ble_eq_true rfl) (Nat.le_of_ble_eq_true rfl) dX9_copy_122 ?_
    refine g_aload_n (i := 0) hX dX9_copy_125 rfl rfl ?_
    refine g_iload hX dX9_copy_126 rfl ?_
    refine sX9_109 hX ⟨Nat.le_of_ble_eq_true rfl, Nat.le_of_ble_eq_true rfl⟩ (Nat.le_of_ble_eq_true rfl) dX9_copy_128 (c_noFinding) ?_
    refine g_iret (st := []) hX hE rfl dX9_copy_131 (⟨_, rfl, rfl, rfl⟩)
  · intro S1 hS1
    rw [ci, cj, cn] at hS1
    have eH : ∀ k, k ≠ 48 → k ≠ 2 * b + 1 → S1.1 k = S.1 k := fun k q1 q2 => by rw [hS1, pR_ne _ _ q1, pR_ne _ _ q2]
    have e48 : S1.1 48 15 = 0 := by rw [hS1]; rfl
    have hF1 : Fq shK shO S S1 := by rw [hS1]; exact (Fq.rf.R (shK_lt (by omega))).I (by decide)
    have eB : S1.1 (2 * b + 1) = va_cpy (S.1 (2 * a + 1)) (S.1 (2 * b + 1)) i j n := by rw [hS1, pR_ne _ _ (by omega), pR_self]
    clear hS1
    refine oX10_copy (fun X hX hE => ?_)
    have e68a : (pI (pI S1 67 0 0) 67 1 0).1 68 a = nI la := by show S1.1 68 a = _; rw [eH _ (by omega) (by omega), la3]
    have e68b : (pI (pI S1 67 0 0) 67 1 0).1 68 b = nI la := by show S1.1 68 b = _; rw [eH _ (by omega) (by omega), lb3]
    have e69a : (pI (pI S1 67 0 0) 67 1 0).1 69 a = nI za := by show S1.1 69 a = _; rw [eH _ (by omega) (by omega), za3]
    have e69b : (pI (pI S1 67 0 0) 67 1 0).1 69 b = nI zb := by show S1.1 69 b = _; rw [eH _ (by omega) (by omega), zb3]
    refine g_aload_n (i := 0) hX dX10_copy_0 rfl rfl ?_
    refine g_iconst hX dX10_copy_1 ic0 ?_
    refine pX10_78 hX dX10_copy_2 ?_
    refine g_iload_n (i := 1) hX dX10_copy_5 rfl rfl ?_
    refine sX10_91 hX ⟨Nat.le_of_ble_eq_true rfl, Nat.le_of_ble_eq_true rfl⟩ (Nat.le_of_ble_eq_true rfl) dX10_copy_6 (c_isSheet_t ha) ?_
    refine g_if_eq (tgt := 19) hX dX10_copy_9 (by decide) (fun h9 => absurd h9 ((by decide))) (fun _ => ?_)
    refine g_iload_n (i := 3) hX dX10_copy_12 rfl rfl ?_
    refine sX10_91 hX ⟨Nat.le_of_ble_eq_true rfl, Nat.le_of_ble_eq_true rfl⟩ (Nat.le_of_ble_eq_true rfl) dX10_copy_13 (c_isSheet_t hb) ?_
    refine g_if_ne (tgt := 22) hX dX10_copy_16 (by decide) (fun _ => ?_) (fun h9 => absurd h9 ((by decide)))
    refine g_aload_n (i := 0) hX dX10_copy_22 rfl rfl ?_
    refine g_iconst hX dX10_copy_23 ic0 ?_
    refine pX10_81 hX dX10_copy_24 ?_
    refine g_aload_n (i := 0) hX dX10_copy_27 rfl rfl ?_
    refine fX10_7 hX dX10_copy_28 ?_
    refine g_iload_n (i := 1) hX dX10_copy_31 rfl rfl ?_
    refine g_ialoadN hX (ia68) rfl (ha) (by first | decide | assumption | omega) dX10_copy_32 ?_
    refine g_if_lt (tgt := 45) hX dX10_copy_33 (by decide) (fun h9 => absurd h9 ((by rw [e68a]; exact nI_pos (by omega)))) (fun _ => ?_)
    refine g_aload_n (i := 0) hX dX10_copy_36 rfl rfl ?_
    refine fX10_7 hX dX10_copy_37 ?_
    refine g_iload_n (i := 3) hX dX10_copy_40 rfl rfl ?_
    refine g_ialoadN hX (ia68) rfl (hb) (by first | decide | assumption | omega) dX10_copy_41 ?_
    refine g_if_ge (tgt := 51) hX dX10_copy_42 (by decide) (fun _ => ?_) (fun h9 => absurd ((by rw [e68b]; exact nI_pos' (by omega))) h9)
    refine g_aload_n (i := 0) hX dX10_copy_51 rfl rfl ?_
    refine fX10_7 hX dX10_copy_52 ?_
    refine g_iload_n (i := 1) hX dX10_copy_55 rfl rfl ?_
    refine g_ialoadN hX (ia68) rfl (ha) (by first | decide | assumption | omega) dX10_copy_56 ?_
    refine g_aload_n (i := 0) hX dX10_copy_57 rfl rfl ?_
    refine fX10_7 hX dX10_copy_58 ?_
    refine g_iload_n (i := 3) hX dX10_copy_61 rfl rfl ?_
    refine g_ialoadN hX (ia68) rfl (hb) (by first | decide | assumption | omega) dX10_copy_62 ?_
    refine g_icmp_eq (tgt := 72) hX dX10_copy_63 (by decide) (fun _ => ?_) (fun h9 => absurd ((by rw [e68a, e68b])) h9)
    refine g_iload_n (i := 2) hX dX10_copy_72 rfl rfl ?_
    refine g_if_lt (tgt := 121) hX dX10_copy_73 (by decide) (fun h9 => absurd h9 (nI_pos (by omega))) (fun _ => ?_)
    refine g_iload hX dX10_copy_76 rfl ?_
    refine g_if_lt (tgt := 121) hX dX10_copy_78 (by decide) (fun h9 => absurd h9 (nI_pos (by omega))) (fun _ => ?_)
    refine g_iload hX dX10_copy_81 rfl ?_
    refine g_if_lt (tgt := 121) hX dX10_copy_83 (by decide) (fun h9 => absurd h9 (nI_pos (by omega))) (fun _ => ?_)
    refine g_iload_n (i := 2) hX dX10_copy_86 rfl rfl ?_
    refine g_i2l hX dX10_copy_87 ?_
    refine g_iload hX dX10_copy_88 rfl ?_
    refine g_i2l hX dX10_copy_90 ?_
    refine g_ladd hX dX10_copy_91 ?_
    refine g_aload_n (i := 0) hX dX10_copy_92 rfl rfl ?_
    refine fX10_13 hX dX10_copy_93 ?_
    refine g_iload_n (i := 1) hX dX10_copy_96 rfl rfl ?_
    refine g_ialoadN hX (ia69) rfl (ha) (by first | decide | assumption | omega) dX10_copy_97 ?_
    refine g_i2l hX dX10_copy_98 ?_
    refine g_lcmp hX dX10_copy_99 ?_
    refine g_if_gt (tgt := 121) hX dX10_copy_100 (by decide) (fun h9 => absurd h9 ((by rw [lg_cmp_gt, l_lt, l_add, l_i, e69a, nI_toInt (by omega), nI_toInt (by omega), nI_toInt (by omega)]; omega))) (fun _ => ?_)
    refine g_iload hX dX10_copy_103 rfl ?_
    refine g_i2l hX dX10_copy_105 ?_
    refine g_iload hX dX10_copy_106 rfl ?_
    refine g_i2l hX dX10_copy_108 ?_
    refine g_ladd hX dX10_copy_109 ?_
    refine g_aload_n (i := 0) hX dX10_copy_110 rfl rfl ?_
    refine fX10_13 hX dX10_copy_111 ?_
    refine g_iload_n (i := 3) hX dX10_copy_114 rfl rfl ?_
    refine g_ialoadN hX (ia69) rfl (hb) (by first | decide | assumption | omega) dX10_copy_115 ?_
    refine g_i2l hX dX10_copy_116 ?_
    refine g_lcmp hX dX10_copy_117 ?_
    refine g_if_le (tgt := 127) hX dX10_copy_118 (by decide) (fun _ => ?_) (fun h9 => absurd ((by rw [lg_cmp_le, l_le, l_add, l_i, e69b, nI_toInt (by omega), nI_toInt (by omega), nI_toInt (by omega)]; omega)) h9)
    generalize hS' : pI (pI S1 67 0 0) 67 1 0 = S' at *
    have f70 : S'.1 70 = S.1 70 := by rw [← hS']; show S1.1 70 = _; exact eH _ (by omega) (by omega)
    have hF2 : Fq shK shO S S' := by rw [← hS']; exact (hF1.I (by decide)).I (by decide)
    have f48 : S'.1 48 15 = 0 := by rw [← hS']; exact e48
    have f67 : S'.1 67 1 = 0 := by rw [← hS']; rfl
    have fH : ∀ k, k ≠ 48 → k ≠ 67 → k ≠ 2 * b + 1 → S'.1 k = S.1 k := fun k q1 q2 q3 => by rw [← hS', pR_ne _ _ q2, pR_ne _ _ q2, eH k q1 q3]
    have fB : S'.1 (2 * b + 1) = va_cpy (S.1 (2 * a + 1)) (S.1 (2 * b + 1)) i j n := by rw [← hS', pR_ne _ _ (by omega), pR_ne _ _ (by omega), eB]
    clear hS' hF1 e48 eH eB
    have fin : ∀ (u : Int32) (q : Value), G Γ X (pR S' 70 (cpf (S.1 70) (60 * a + i) (60 * b + j) 0 n)) 204 [(0, .ref (Γ.1 67)), (1, .int (nI a)), (2, .int (nI i)), (3, .int (nI b)), (4, .int (nI j)), (5, .int (nI n)), (6, .int u), (7, q)] [] := by
      intro u q
      refine g_iload hX dX10_copy_204 rfl ?_
      refine g_iret (st := []) hX hE rfl dX10_copy_206 (⟨_, rfl, rfl, ?_⟩)
      refine hR.sheet (x := 0) (hF2.R (by decide)) ?_ f48 f67
      refine hR.1.upd b ⟨zb, zb1, ?_, ?_, ?_, Or.inr ⟨?_, la, la1, ?_, ?_⟩⟩ ?_
      · rw [pR_ne _ _ (by omega), fH _ (by omega) (by omega) (by omega)]; exact zb2
      · rw [pR_ne _ _ (by omega), fH _ (by omega) (by omega) (by omega)]; exact zb3
      · intro t ht
        rw [pR_ne _ _ (by omega), pR_self, fB]
        unfold va_cpy cpf
        by_cases hc : j ≤ t ∧ t < j + n
        · rw [if_pos hc, if_pos (by omega), za4 _ (by omega)]
          exact congrArg (S.1 70) (by omega)
        · rw [if_neg hc, if_neg (by omega)]
          exact zb4 t ht
      · rw [pR_ne _ _ (by omega), fH _ (by omega) (by omega) (by omega)]; exact n1
      · rw [pR_ne _ _ (by omega), fH _ (by omega) (by omega) (by omega)]; exact lb2
      · rw [pR_ne _ _ (by omega), fH _ (by omega) (by omega) (by omega)]; exact lb3
      · intro t ht hts
        refine ⟨?_, ?_, ?_, ?_, ?_⟩
        · rw [pR_ne _ _ (by omega), fH _ (by omega) (by omega) (by omega)]
        · rw [pR_ne _ _ (by omega), fH _ (by omega) (by omega) (by omega)]
        · rw [pR_ne _ _ (by omega), fH _ (by omega) (by omega) (by omega)]
        · rw [pR_ne _ _ (by omega), fH _ (by omega) (by omega) (by omega)]
        · intro t' ht'
          rw [pR_self]
          unfold cpf
          rw [if_neg (by omega)]
    have start : S' = pR S' 70 (cpf (S.1 70) (60 * a + i) (60 * b + j) 0 0) := by
      rw [show cpf (S.1 70) (60 * a + i) (60 * b + j) 0 0 = S'.1 70 from by rw [f70]; funext q; exact if_neg (by omega), pR_eta]
    have startn : S' = pR S' 70 (cpf (S.1 70) (60 * a + i) (60 * b + j) n n) := by
      rw [show cpf (S.1 70) (60 * a + i) (60 * b + j) n n = S'.1 70 from by rw [f70]; funext q; exact if_neg (by omega), pR_eta]
    by_cases hij : i < j
    · have loop : ∀ d k, k + d = n → G Γ X (pR S' 70 (cpf (S.1 70) (60 * a + i) (60 * b + j) (n - k) n)) 143 [(0, .ref (Γ.1 67)), (1, .int (nI a)), (2, .int (nI i)), (3, .int (nI b)), (4, .int (nI j)), (5, .int (nI n)), (6, .int 0), (7, .int (nI k))] [] := by
        intro d
        induction d with
        | zero =>
          intro k hk
          obtain rfl : k = n := by omega
          refine g_iload hX dX10_copy_143 rfl ?_
          refine g_iload hX dX10_copy_145 rfl ?_
          refine g_icmp_ge (tgt := 204) hX dX10_copy_147 (by decide) (fun _ => ?_) (fun h9 => absurd (nI_le (Nat.le_refl _) (by omega)) h9)
          rw [Nat.sub_self]
          exact fin _ _
        | succ d ih =>
          intro k hk
          have e1 : (60 : Int32) * nI a + nI i + (nI n - 1 - nI k) = nI (60 * a + i + (n - 1 - k)) := by rw [nI_m1 (by omega), nI_sub (by omega), nI_60b]
          have e2 : (60 : Int32) * nI b + nI j + (nI n - 1 - nI k) = nI (60 * b + j + (n - 1 - k)) := by rw [nI_m1 (by omega), nI_sub (by omega), nI_60b]
          refine g_iload hX dX10_copy_143 rfl ?_
          refine g_iload hX dX10_copy_145 rfl ?_
          refine g_icmp_ge (tgt := 204) hX dX10_copy_147 (by decide) (fun h9 => absurd h9 (nI_ge (by omega) (by omega))) (fun _ => ?_)
          refine g_iload hX dX10_copy_150 rfl ?_
          refine g_if_eq (tgt := 160) hX dX10_copy_152 (by decide) (fun _ => ?_) (fun h9 => absurd (rfl) h9)
          refine g_iload hX dX10_copy_160 rfl ?_
          refine g_iconst hX dX10_copy_162 ic1 ?_
          refine g_isub hX dX10_copy_163 ?_
          refine g_iload hX dX10_copy_164 rfl ?_
          refine g_isub hX dX10_copy_166 ?_
          refine g_istore hX dX10_copy_167 (by decide) rfl ?_
          refine g_aload_n (i := 0) hX dX10_copy_169 rfl rfl ?_
          refine fX10_16 hX dX10_copy_170 ?_
          refine g_bipush hX dX10_copy_173 bp60 ?_
          refine g_iload_n (i := 3) hX dX10_copy_175 rfl rfl ?_
          refine g_imul hX dX10_copy_176 ?_
          refine g_iload hX dX10_copy_177 rfl ?_
          refine g_iadd hX dX10_copy_179 ?_
          refine g_iload hX dX10_copy_180 rfl ?_
          refine g_iadd hX dX10_copy_182 ?_
          refine g_aload_n (i := 0) hX dX10_copy_183 rfl rfl ?_
          refine fX10_16 hX dX10_copy_184 ?_
          refine g_bipush hX dX10_copy_187 bp60 ?_
          refine g_iload_n (i := 1) hX dX10_copy_189 rfl rfl ?_
          refine g_imul hX dX10_copy_190 ?_
          refine g_iload_n (i := 2) hX dX10_copy_191 rfl rfl ?_
          refine g_iadd hX dX10_copy_192 ?_
          refine g_iload hX dX10_copy_193 rfl ?_
          refine g_iadd hX dX10_copy_195 ?_
          refine g_ialoadN hX (ia70) (e1) ((show 60 * a + i + (n - 1 - k) < 480 by omega)) (by first | decide | assumption | omega) dX10_copy_196 ?_
          refine g_iastoreN hX (ia70) (e2) ((show 60 * b + j + (n - 1 - k) < 480 by omega)) (by first | decide | assumption | omega) dX10_copy_197 ?_
          refine g_iinc hX dX10_copy_198 rfl ic1 (by decide) rfl ?_
          refine g_goto (tgt := 143) hX dX10_copy_201 (by decide) ?_
          have e3 : (pR S' 70 (cpf (S.1 70) (60 * a + i) (60 * b + j) (n - k) n)).1 70 (60 * a + i + (n - 1 - k)) = S.1 70 (60 * a + i + (n - 1 - k)) := by
            rw [pR_self]
            unfold cpf
            rw [if_neg]
            intro hc
            rcases Nat.lt_trichotomy a b with q | q | q <;> omega
          rw [e3, cpf_dn _ _ _ _ _ _ (by omega), nI_1]
          exact g_weak (ih (k + 1) (by omega)) (as_c rfl (as_c rfl (as_c rfl (as_c rfl (as_c rfl (as_c rfl (as_c rfl (as_c rfl (as_n)))))))))
      rw [startn]
      refine g_iload_n (i := 2) hX dX10_copy_127 rfl rfl ?_
      refine g_iload hX dX10_copy_128 rfl ?_
      refine g_icmp_lt (tgt := 137) hX dX10_copy_130 (by decide) (fun _ => ?_) (fun h9 => absurd (nI_lt hij (by omega)) h9)
      refine g_iconst hX dX10_copy_137 ic0 ?_
      refine g_istore hX dX10_copy_138 (by decide) rfl ?_
      refine g_iconst hX dX10_copy_140 ic0 ?_
      refine g_istore hX dX10_copy_141 (by decide) rfl ?_
      exact loop n 0 (by omega)
    · have loop : ∀ d k, k + d = n → G Γ X (pR S' 70 (cpf (S.1 70) (60 * a + i) (60 * b + j) 0 k)) 143 [(0, .ref (Γ.1 67)), (1, .int (nI a)), (2, .int (nI i)), (3, .int (nI b)), (4, .int (nI j)), (5, .int (nI n)), (6, .int 1), (7, .int (nI k))] [] := by
        intro d
        induction d with
        | zero =>
          intro k hk
          obtain rfl : k = n := by omega
          refine g_iload hX dX10_copy_143 rfl ?_
          refine g_iload hX dX10_copy_145 rfl ?_
          refine g_icmp_ge (tgt := 204) hX dX10_copy_147 (by decide) (fun _ => ?_) (fun h9 => absurd (nI_le (Nat.le_refl _) (by omega)) h9)
          exact fin _ _
        | succ d ih =>
          intro k hk
          refine g_iload hX dX10_copy_143 rfl ?_
          refine g_iload hX dX10_copy_145 rfl ?_
          refine g_icmp_ge (tgt := 204) hX dX10_copy_147 (by decide) (fun h9 => absurd h9 (nI_ge (by omega) (by omega))) (fun _ => ?_)
          refine g_iload hX dX10_copy_150 rfl ?_
          refine g_if_eq (tgt := 160) hX dX10_copy_152 (by decide) (fun h9 => absurd h9 ((by decide))) (fun _ => ?_)
          refine g_iload hX dX10_copy_155 rfl ?_
          refine g_goto (tgt := 167) hX dX10_copy_157 (by decide) ?_
          refine g_istore hX dX10_copy_167 (by decide) rfl ?_
          refine g_aload_n (i := 0) hX dX10_copy_169 rfl rfl ?_
          refine fX10_16 hX dX10_copy_170 ?_
          refine g_bipush hX dX10_copy_173 bp60 ?_
          refine g_iload_n (i := 3) hX dX10_copy_175 rfl rfl ?_
          refine g_imul hX dX10_copy_176 ?_
          refine g_iload hX dX10_copy_177 rfl ?_
          refine g_iadd hX dX10_copy_179 ?_
          refine g_iload hX dX10_copy_180 rfl ?_
          refine g_iadd hX dX10_copy_182 ?_
          refine g_aload_n (i := 0) hX dX10_copy_183 rfl rfl ?_
          refine fX10_16 hX dX10_copy_184 ?_
          refine g_bipush hX dX10_copy_187 bp60 ?_
          refine g_iload_n (i := 1) hX dX10_copy_189 rfl rfl ?_
          refine g_imul hX dX10_copy_190 ?_
          refine g_iload_n (i := 2) hX dX10_copy_191 rfl rfl ?_
          refine g_iadd hX dX10_copy_192 ?_
          refine g_iload hX dX10_copy_193 rfl ?_
          refine g_iadd hX dX10_copy_195 ?_
          refine g_ialoadN hX (ia70) (nI_60b a i k) ((show 60 * a + i + k < 480 by omega)) (by first | decide | assumption | omega) dX10_copy_196 ?_
          refine g_iastoreN hX (ia70) (nI_60b b j k) ((show 60 * b + j + k < 480 by omega)) (by first | decide | assumption | omega) dX10_copy_197 ?_
          refine g_iinc hX dX10_copy_198 rfl ic1 (by decide) rfl ?_
          refine g_goto (tgt := 143) hX dX10_copy_201 (by decide) ?_
          have e3 : (pR S' 70 (cpf (S.1 70) (60 * a + i) (60 * b + j) 0 k)).1 70 (60 * a + i + k) = S.1 70 (60 * a + i + k) := by
            rw [pR_self]
            unfold cpf
            rw [if_neg]
            intro hc
            rcases Nat.lt_trichotomy a b with q | q | q <;> omega
          rw [e3, cpf_up, nI_1]
          exact g_weak (ih (k + 1) (by omega)) (as_c rfl (as_c rfl (as_c rfl (as_c rfl (as_c rfl (as_c rfl (as_c rfl (as_c rfl (as_n)))))))))
      rw [start]
      refine g_iload_n (i := 2) hX dX10_copy_127 rfl rfl ?_
      refine g_iload hX dX10_copy_128 rfl ?_
      refine g_icmp_lt (tgt := 137) hX dX10_copy_130 (by decide) (fun h9 => absurd h9 (nI_nlt (by omega) (by omega))) (fun _ => ?_)
      refine g_iconst hX dX10_copy_133 ic1 ?_
      refine g_goto (tgt := 138) hX dX10_copy_134 (by decide) ?_
      refine g_istore hX dX10_copy_138 (by decide) rfl ?_
      refine g_iconst hX dX10_copy_140 ic0 ?_
      refine g_istore hX dX10_copy_141 (by decide) rfl ?_
      exact loop n 0 (by omega)
