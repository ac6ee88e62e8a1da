/-! a telling, the class's -/
theorem c_isWord {Γ : GG} {S : St} {n g e i : Nat} {b : Nat → Nat} (hb : BtC S n b) (hi : i < 5) (hge : g ≤ e) (he : e ≤ n) (h3 : S.1 50 3 = nI g) (h4 : S.1 50 4 = nI e) : kX8_isWord Γ [.ref (Γ.1 50), .ref (Γ.2.2.2.2.2.1 i)] S (rI (if isW b g e i = true then 1 else 0) S) := by
  refine oX8_isWord (fun X hX hE => ?_)
  have h400 := hb.1
  have h9 : ∀ b, b < 5 → kLen.getD b 0 ≤ 5 := by decide
  have h8 := h9 i hi
  have hl := c_strlen (Γ := Γ) (S := S) hi
  have es : S.1 50 4 - S.1 50 3 = nI (e - g) := by rw [h4, h3, nI_sub hge]
  by_cases q : e - g = kLen.getD i 0
  · have loop : ∀ d j, j + d = kLen.getD i 0 → (∀ k, k < j → b (g + k) = ktN i k) → G Γ X S 20 [(0, .ref (Γ.1 50)), (1, .ref (Γ.2.2.2.2.2.1 i)), (2, .int (nI j))] [] := by
      intro d
      induction d with
      | zero =>
        intro j hj ha
        obtain rfl : j = kLen.getD i 0 := by omega
        rw [if_pos (by unfold isW; rw [decide_eq_true_iff]; exact ⟨q, ha⟩)] at hE
        refine g_iload_n (i := 2) hX dX8_isWord_20 rfl rfl ?_
        refine g_aload_n (i := 1) hX dX8_isWord_21 rfl rfl ?_
        refine sX8_85 hX hi ⟨Nat.le_of_ble_eq_true rfl, Nat.le_of_ble_eq_true rfl⟩ (Nat.le_of_ble_eq_true rfl) dX8_isWord_22 (hl) ?_
        refine g_icmp_ge (tgt := 55) hX dX8_isWord_25 (by decide) (fun _ => ?_) (fun h9 => absurd (nI_le (Nat.le_refl _) (by omega)) h9)
        refine g_iconst hX dX8_isWord_55 ic1 ?_
        refine g_zret (st := []) hX hE rfl (nz_narrow (Or.inr rfl)).1 dX8_isWord_56 (⟨rfl, rfl⟩)
      | succ d ih =>
        intro j hj ha
        obtain ⟨c1, c2⟩ := chB_kN i hi j (by omega)
        obtain ⟨e1, e2⟩ := hb.2.2 (g + j) (by omega)
        have hc := c_charAt (Γ := Γ) (S := S) hi (show j < kLen.getD i 0 by omega)
        by_cases q2 : b (g + j) = ktN i j
        · refine g_iload_n (i := 2) hX dX8_isWord_20 rfl rfl ?_
          refine g_aload_n (i := 1) hX dX8_isWord_21 rfl rfl ?_
          refine sX8_85 hX hi ⟨Nat.le_of_ble_eq_true rfl, Nat.le_of_ble_eq_true rfl⟩ (Nat.le_of_ble_eq_true rfl) dX8_isWord_22 (hl) ?_
          refine g_icmp_ge (tgt := 55) hX dX8_isWord_25 (by decide) (fun h9 => absurd h9 (nI_ge (by omega) (by omega))) (fun _ => ?_)
          refine g_aload_n (i := 0) hX dX8_isWord_28 rfl rfl ?_
          refine fX8_9 hX dX8_isWord_29 ?_
          refine g_aload_n (i := 0) hX dX8_isWord_32 rfl rfl ?_
          refine fX8_24 hX dX8_isWord_33 ?_
          refine g_iload_n (i := 2) hX dX8_isWord_36 rfl rfl ?_
          refine g_iadd hX dX8_isWord_37 ?_
          refine g_ialoadN hX (ia51) ((by rw [h3, nI_add2])) ((show g + j < 400 by omega)) (by first | decide | assumption | omega) dX8_isWord_38 ?_
          refine g_aload_n (i := 1) hX dX8_isWord_39 rfl rfl ?_
          refine g_iload_n (i := 2) hX dX8_isWord_40 rfl rfl ?_
          refine sX8_90 hX hi ⟨Nat.le_of_ble_eq_true rfl, Nat.le_of_ble_eq_true rfl⟩ (Nat.le_of_ble_eq_true rfl) dX8_isWord_41 (hc) ?_
          refine g_icmp_eq (tgt := 49) hX dX8_isWord_44 (by decide) (fun _ => ?_) (fun h9 => absurd ((by rw [e1, c1, q2])) h9)
          refine g_iinc hX dX8_isWord_49 rfl ic1 (by decide) rfl ?_
          refine g_goto (tgt := 20) hX dX8_isWord_52 (by decide) ?_
          rw [nI_1]
          exact ih (j + 1) (by omega) (fun k hk => by
            by_cases e : k = j
            · rw [e]; exact q2
            · exact ha k (by omega))
        · rw [if_neg (by unfold isW; rw [decide_eq_true_iff]; exact fun z => q2 (z.2 j (by omega)))] at hE
          refine g_iload_n (i := 2) hX dX8_isWord_20 rfl rfl ?_
          refine g_aload_n (i := 1) hX dX8_isWord_21 rfl rfl ?_
          refine sX8_85 hX hi ⟨Nat.le_of_ble_eq_true rfl, Nat.le_of_ble_eq_true rfl⟩ (Nat.le_of_ble_eq_true rfl) dX8_isWord_22 (hl) ?_
          refine g_icmp_ge (tgt := 55) hX dX8_isWord_25 (by decide) (fun h9 => absurd h9 (nI_ge (by omega) (by omega))) (fun _ => ?_)
          refine g_aload_n (i := 0) hX dX8_isWord_28 rfl rfl ?_
          refine fX8_9 hX dX8_isWord_29 ?_
          refine g_aload_n (i := 0) hX dX8_isWord_32 rfl rfl ?_
          refine fX8_24 hX dX8_isWord_33 ?_
          refine g_iload_n (i := 2) hX dX8_isWord_36 rfl rfl ?_
          refine g_iadd hX dX8_isWord_37 ?_
          refine g_ialoadN hX (ia51) ((by rw [h3, nI_add2])) ((show g + j < 400 by omega)) (by first | decide | assumption | omega) dX8_isWord_38 ?_
          refine g_aload_n (i := 1) hX dX8_isWord_39 rfl rfl ?_
          refine g_iload_n (i := 2) hX dX8_isWord_40 rfl rfl ?_
          refine sX8_90 hX hi ⟨Nat.le_of_ble_eq_true rfl, Nat.le_of_ble_eq_true rfl⟩ (Nat.le_of_ble_eq_true rfl) dX8_isWord_41 (hc) ?_
          refine g_icmp_eq (tgt := 49) hX dX8_isWord_44 (by decide) (fun h9 => absurd h9 ((by rw [e1, c1]; exact nI_ne (by omega) (by omega) q2))) (fun _ => ?_)
          refine g_iconst hX dX8_isWord_47 ic0 ?_
          refine g_zret (st := []) hX hE rfl (nz_narrow (Or.inl rfl)).1 dX8_isWord_48 (⟨rfl, rfl⟩)
    refine g_aload_n (i := 0) hX dX8_isWord_0 rfl rfl ?_
    refine fX8_27 hX dX8_isWord_1 ?_
    refine g_aload_n (i := 0) hX dX8_isWord_4 rfl rfl ?_
    refine fX8_24 hX dX8_isWord_5 ?_
    refine g_isub hX dX8_isWord_8 ?_
    refine g_aload_n (i := 1) hX dX8_isWord_9 rfl rfl ?_
    refine sX8_85 hX hi ⟨Nat.le_of_ble_eq_true rfl, Nat.le_of_ble_eq_true rfl⟩ (Nat.le_of_ble_eq_true rfl) dX8_isWord_10 (hl) ?_
    refine g_icmp_eq (tgt := 18) hX dX8_isWord_13 (by decide) (fun _ => ?_) (fun h9 => absurd ((by rw [es, q])) h9)
    refine g_iconst hX dX8_isWord_18 ic0 ?_
    refine g_istore_n (i := 2) hX dX8_isWord_19 rfl (by decide) rfl ?_
    exact loop _ 0 (Nat.zero_add _) (fun k hk => absurd hk (by omega))
  · rw [if_neg (by unfold isW; rw [decide_eq_true_iff]; exact fun z => q z.1)] at hE
    refine g_aload_n (i := 0) hX dX8_isWord_0 rfl rfl ?_
    refine fX8_27 hX dX8_isWord_1 ?_
    refine g_aload_n (i := 0) hX dX8_isWord_4 rfl rfl ?_
    refine fX8_24 hX dX8_isWord_5 ?_
    refine g_isub hX dX8_isWord_8 ?_
    refine g_aload_n (i := 1) hX dX8_isWord_9 rfl rfl ?_
    refine sX8_85 hX hi ⟨Nat.le_of_ble_eq_true rfl, Nat.le_of_ble_eq_true rfl⟩ (Nat.le_of_ble_eq_true rfl) dX8_isWord_10 (hl) ?_
    refine g_icmp_eq (tgt := 18) hX dX8_isWord_13 (by decide) (fun h9 => absurd h9 ((by rw [es]; exact nI_ne (by omega) (by omega) q))) (fun _ => ?_)
    refine g_iconst hX dX8_isWord_16 ic0 ?_
    refine g_zret (st := []) hX hE rfl (nz_narrow (Or.inl rfl)).1 dX8_isWord_17 (⟨rfl, rfl⟩)
theorem c_wordOfToken {Γ : GG} {S : St} {n g : Nat} {b : Nat → Nat} (hb : BtC S n b) (hg : g ≤ n) (h3 : S.1 50 3 = nI g) (h4 : S.1 50 4 = nI (tkE b n g)) (h5 : S.1 50 5 = nI (tkK b n g)) : kX8_wordOfToken Γ [.ref (Γ.1 50)] S (rI (if wdN b n g < 5 then nI (wdN b n g) else -1000000) S) := by
  refine oX8_wordOfToken (fun X hX hE => ?_)
  obtain ⟨e1, e2⟩ := tkE_ok (b := b) hg
  have hk4 := tkK_le b n g
  have cw : ∀ i, i < 5 → kX8_isWord Γ [.ref (Γ.1 50), .ref (Γ.2.2.2.2.2.1 i)] S (rI (if isW b g (tkE b n g) i = true then 1 else 0) S) := fun i hi => c_isWord hb hi e1 e2 h3 h4
  by_cases hk : tkK b n g = 1
  · have t1 : S.1 50 5 = 1 := by rw [h5, hk]; rfl
    have hw : wdN b n g = (if isW b g (tkE b n g) 0 = true then 0 else if isW b g (tkE b n g) 1 = true then 1 else if isW b g (tkE b n g) 2 = true then 2 else if isW b g (tkE b n g) 3 = true then 3 else if isW b g (tkE b n g) 4 = true then 4 else 5) := if_pos hk
    have c0 := cw 0 (by decide)
    have c1 := cw 1 (by decide)
    have c2 := cw 2 (by decide)
    have c3 := cw 3 (by decide)
    have c4 := cw 4 (by decide)
    by_cases q0 : isW b g (tkE b n g) 0 = true
    · rw [if_pos q0] at hw c0
      rw [hw, if_pos (by decide)] at hE
      refine g_aload_n (i := 0) hX dX8_wordOfToken_0 rfl rfl ?_
      refine fX8_30 hX dX8_wordOfToken_1 ?_
      refine g_iconst hX dX8_wordOfToken_4 ic1 ?_
      refine g_icmp_eq (tgt := 11) hX dX8_wordOfToken_5 (by decide) (fun _ => ?_) (fun h9 => absurd (t1) h9)
      refine g_aload_n (i := 0) hX dX8_wordOfToken_11 rfl rfl ?_
      refine g_ldcS (i := 0) hX (by decide) rfl rfl dX8_wordOfToken_12 ?_
      refine sX8_73 hX ⟨Nat.le_of_ble_eq_true rfl, Nat.le_of_ble_eq_true rfl⟩ (Nat.le_of_ble_eq_true rfl) dX8_wordOfToken_14 (c0) ?_
      refine g_if_eq (tgt := 22) hX dX8_wordOfToken_17 (by decide) (fun h9 => absurd h9 ((by decide))) (fun _ => ?_)
      refine g_iconst hX dX8_wordOfToken_20 ic0 ?_
      refine g_iret (st := []) hX hE rfl dX8_wordOfToken_21 (⟨rfl, rfl⟩)
    rw [if_neg q0] at hw c0
    by_cases q1 : isW b g (tkE b n g) 1 = true
    · rw [if_pos q1] at hw c1
      rw [hw, if_pos (by decide)] at hE
      refine g_aload_n (i := 0) hX dX8_wordOfToken_0 rfl rfl ?_
      refine fX8_30 hX dX8_wordOfToken_1 ?_
      refine g_iconst hX dX8_wordOfToken_4 ic1 ?_
      refine g_icmp_eq (tgt := 11) hX dX8_wordOfToken_5 (by decide) (fun _ => ?_) (fun h9 => absurd (t1) h9)
      refine g_aload_n (i := 0) hX dX8_wordOfToken_11 rfl rfl ?_
      refine g_ldcS (i := 0) hX (by decide) rfl rfl dX8_wordOfToken_12 ?_
      refine sX8_73 hX ⟨Nat.le_of_ble_eq_true rfl, Nat.le_of_ble_eq_true rfl⟩ (Nat.le_of_ble_eq_true rfl) dX8_wordOfToken_14 (c0) ?_
      refine g_if_eq (tgt := 22) hX dX8_wordOfToken_17 (by decide) (fun _ => ?_) (fun h9 => absurd (rfl) h9)
      refine g_aload_n (i := 0) hX dX8_wordOfToken_22 rfl rfl ?_
      refine g_ldcS (i := 1) hX (by decide) rfl rfl dX8_wordOfToken_23 ?_
      refine sX8_73 hX ⟨Nat.le_of_ble_eq_true rfl, Nat.le_of_ble_eq_true rfl⟩ (Nat.le_of_ble_eq_true rfl) dX8_wordOfToken_25 (c1) ?_
      refine g_if_eq (tgt := 33) hX dX8_wordOfToken_28 (by decide) (fun h9 => absurd h9 ((by decide))) (fun _ => ?_)
      refine g_iconst hX dX8_wordOfToken_31 ic1 ?_
      refine g_iret (st := []) hX hE rfl dX8_wordOfToken_32 (⟨rfl, rfl⟩)
    rw [if_neg q1] at hw c1
    by_cases q2 : isW b g (tkE b n g) 2 = true
    · rw [if_pos q2] at hw c2
      rw [hw, if_pos (by decide)] at hE
      refine g_aload_n (i := 0) hX dX8_wordOfToken_0 rfl rfl ?_
      refine fX8_30 hX dX8_wordOfToken_1 ?_
      refine g_iconst hX dX8_wordOfToken_4 ic1 ?_
      refine g_icmp_eq (tgt := 11) hX dX8_wordOfToken_5 (by decide) (fun _ => ?_) (fun h9 => absurd (t1) h9)
      refine g_aload_n (i := 0) hX dX8_wordOfToken_11 rfl rfl ?_
      refine g_ldcS (i := 0) hX (by decide) rfl rfl dX8_wordOfToken_12 ?_
      refine sX8_73 hX ⟨Nat.le_of_ble_eq_true rfl, Nat.le_of_ble_eq_true rfl⟩ (Nat.le_of_ble_eq_true rfl) dX8_wordOfToken_14 (c0) ?_
      refine g_if_eq (tgt := 22) hX dX8_wordOfToken_17 (by decide) (fun _ => ?_) (fun h9 => absurd (rfl) h9)
      refine g_aload_n (i := 0) hX dX8_wordOfToken_22 rfl rfl ?_
      refine g_ldcS (i := 1) hX (by decide) rfl rfl dX8_wordOfToken_23 ?_
      refine sX8_73 hX ⟨Nat.le_of_ble_eq_true rfl, Nat.le_of_ble_eq_true rfl⟩ (Nat.le_of_ble_eq_true rfl) dX8_wordOfToken_25 (c1) ?_
      refine g_if_eq (tgt := 33) hX dX8_wordOfToken_28 (by decide) (fun _ => ?_) (fun h9 => absurd (rfl) h9)
      refine g_aload_n (i := 0) hX dX8_wordOfToken_33 rfl rfl ?_
      refine g_ldcS (i := 2) hX (by decide) rfl rfl dX8_wordOfToken_34 ?_
      refine sX8_73 hX ⟨Nat.le_of_ble_eq_true rfl, Nat.le_of_ble_eq_true rfl⟩ (Nat.le_of_ble_eq_true rfl) dX8_wordOfToken_36 (c2) ?_
      refine g_if_eq (tgt := 44) hX dX8_wordOfToken_39 (by decide) (fun h9 => absurd h9 ((by decide))) (fun _ => ?_)
      refine g_iconst hX dX8_wordOfToken_42 ic2 ?_
      refine g_iret (st := []) hX hE rfl dX8_wordOfToken_43 (⟨rfl, rfl⟩)
    rw [if_neg q2] at hw c2
    by_cases q3 : isW b g (tkE b n g) 3 = true
    · rw [if_pos q3] at hw c3
      rw [hw, if_pos (by decide)] at hE
      refine g_aload_n (i := 0) hX dX8_wordOfToken_0 rfl rfl ?_
      refine fX8_30 hX dX8_wordOfToken_1 ?_
      refine g_iconst hX dX8_wordOfToken_4 ic1 ?_
      refine g_icmp_eq (tgt := 11) hX dX8_wordOfToken_5 (by decide) (fun _ => ?_) (fun h9 => absurd (t1) h9)
      refine g_aload_n (i := 0) hX dX8_wordOfToken_11 rfl rfl ?_
      refine g_ldcS (i := 0) hX (by decide) rfl rfl dX8_wordOfToken_12 ?_
      refine sX8_73 hX ⟨Nat.le_of_ble_eq_true rfl, Nat.le_of_ble_eq_true rfl⟩ (Nat.le_of_ble_eq_true rfl) dX8_wordOfToken_14 (c0) ?_
      refine g_if_eq (tgt := 22) hX dX8_wordOfToken_17 (by decide) (fun _ => ?_) (fun h9 => absurd (rfl) h9)
      refine g_aload_n (i := 0) hX dX8_wordOfToken_22 rfl rfl ?_
      refine g_ldcS (i := 1) hX (by decide) rfl rfl dX8_wordOfToken_23 ?_
      refine sX8_73 hX ⟨Nat.le_of_ble_eq_true rfl, Nat.le_of_ble_eq_true rfl⟩ (Nat.le_of_ble_eq_true rfl) dX8_wordOfToken_25 (c1) ?_
      refine g_if_eq (tgt := 33) hX dX8_wordOfToken_28 (by decide) (fun _ => ?_) (fun h9 => absurd (rfl) h9)
      refine g_aload_n (i := 0) hX dX8_wordOfToken_33 rfl rfl ?_
      refine g_ldcS (i := 2) hX (by decide) rfl rfl dX8_wordOfToken_34 ?_
      refine sX8_73 hX ⟨Nat.le_of_ble_eq_true rfl, Nat.le_of_ble_eq_true rfl⟩ (Nat.le_of_ble_eq_true rfl) dX8_wordOfToken_36 (c2) ?_
      refine g_if_eq (tgt := 44) hX dX8_wordOfToken_39 (by decide) (fun _ => ?_) (fun h9 => absurd (rfl) h9)
      refine g_aload_n (i := 0) hX dX8_wordOfToken_44 rfl rfl ?_
      refine g_ldcS (i := 3) hX (by decide) rfl rfl dX8_wordOfToken_45 ?_
      refine sX8_73 hX ⟨Nat.le_of_ble_eq_true rfl, Nat.le_of_ble_eq_true rfl⟩ (Nat.le_of_ble_eq_true rfl) dX8_wordOfToken_47 (c3) ?_
      refine g_if_eq (tgt := 55) hX dX8_wordOfToken_50 (by decide) (fun h9 => absurd h9 ((by decide))) (fun _ => ?_)
      refine g_iconst hX dX8_wordOfToken_53 ic3 ?_
      refine g_iret (st := []) hX hE rfl dX8_wordOfToken_54 (⟨rfl, rfl⟩)
    rw [if_neg q3] at hw c3
    by_cases q4 : isW b g (tkE b n g) 4 = true
    · rw [if_pos q4] at hw c4
      rw [hw, if_pos (by decide)] at hE
      refine g_aload_n (i := 0) hX dX8_wordOfToken_0 rfl rfl ?_
      refine fX8_30 hX dX8_wordOfToken_1 ?_
      refine g_iconst hX dX8_wordOfToken_4 ic1 ?_
      refine g_icmp_eq (tgt := 11) hX dX8_wordOfToken_5 (by decide) (fun _ => ?_) (fun h9 => absurd (t1) h9)
      refine g_aload_n (i := 0) hX dX8_wordOfToken_11 rfl rfl ?_
      refine g_ldcS (i := 0) hX (by decide) rfl rfl dX8_wordOfToken_12 ?_
      refine sX8_73 hX ⟨Nat.le_of_ble_eq_true rfl, Nat.le_of_ble_eq_true rfl⟩ (Nat.le_of_ble_eq_true rfl) dX8_wordOfToken_14 (c0) ?_
      refine g_if_eq (tgt := 22) hX dX8_wordOfToken_17 (by decide) (fun _ => ?_) (fun h9 => absurd (rfl) h9)
      refine g_aload_n (i := 0) hX dX8_wordOfToken_22 rfl rfl ?_
      refine g_ldcS (i := 1) hX (by decide) rfl rfl dX8_wordOfToken_23 ?_
      refine sX8_73 hX ⟨Nat.le_of_ble_eq_true rfl, Nat.le_of_ble_eq_true rfl⟩ (Nat.le_of_ble_eq_true rfl) dX8_wordOfToken_25 (c1) ?_
      refine g_if_eq (tgt := 33) hX dX8_wordOfToken_28 (by decide) (fun _ => ?_) (fun h9 => absurd (rfl) h9)
      refine g_aload_n (i := 0) hX dX8_wordOfToken_33 rfl rfl ?_
      refine g_ldcS (i := 2) hX (by decide) rfl rfl dX8_wordOfToken_34 ?_
      refine sX8_73 hX ⟨Nat.le_of_ble_eq_true rfl, Nat.le_of_ble_eq_true rfl⟩ (Nat.le_of_ble_eq_true rfl) dX8_wordOfToken_36 (c2) ?_
      refine g_if_eq (tgt := 44) hX dX8_wordOfToken_39 (by decide) (fun _ => ?_) (fun h9 => absurd (rfl) h9)
      refine g_aload_n (i := 0) hX dX8_wordOfToken_44 rfl rfl ?_
      refine g_ldcS (i := 3) hX (by decide) rfl rfl dX8_wordOfToken_45 ?_
      refine sX8_73 hX ⟨Nat.le_of_ble_eq_true rfl, Nat.le_of_ble_eq_true rfl⟩ (Nat.le_of_ble_eq_true rfl) dX8_wordOfToken_47 (c3) ?_
      refine g_if_eq (tgt := 55) hX dX8_wordOfToken_50 (by decide) (fun _ => ?_) (fun h9 => absurd (rfl) h9)
      refine g_aload_n (i := 0) hX dX8_wordOfToken_55 rfl rfl ?_
      refine g_ldcS (i := 4) hX (by decide) rfl rfl dX8_wordOfToken_56 ?_
      refine sX8_73 hX ⟨Nat.le_of_ble_eq_true rfl, Nat.le_of_ble_eq_true rfl⟩ (Nat.le_of_ble_eq_true rfl) dX8_wordOfToken_58 (c4) ?_
      refine g_if_eq (tgt := 68) hX dX8_wordOfToken_61 (by decide) (fun h9 => absurd h9 ((by decide))) (fun _ => ?_)
      refine g_iconst hX dX8_wordOfToken_64 ic4 ?_
      refine g_goto (tgt := 70) hX dX8_wordOfToken_65 (by decide) ?_
      refine g_iret (st := []) hX hE rfl dX8_wordOfToken_70 (⟨rfl, rfl⟩)
    rw [if_neg q4] at hw c4
    rw [hw, if_neg (by decide)] at hE
    refine g_aload_n (i := 0) hX dX8_wordOfToken_0 rfl rfl ?_
    refine fX8_30 hX dX8_wordOfToken_1 ?_
    refine g_iconst hX dX8_wordOfToken_4 ic1 ?_
    refine g_icmp_eq (tgt := 11) hX dX8_wordOfToken_5 (by decide) (fun _ => ?_) (fun h9 => absurd (t1) h9)
    refine g_aload_n (i := 0) hX dX8_wordOfToken_11 rfl rfl ?_
    refine g_ldcS (i := 0) hX (by decide) rfl rfl dX8_wordOfToken_12 ?_
    refine sX8_73 hX ⟨Nat.le_of_ble_eq_true rfl, Nat.le_of_ble_eq_true rfl⟩ (Nat.le_of_ble_eq_true rfl) dX8_wordOfToken_14 (c0) ?_
    refine g_if_eq (tgt := 22) hX dX8_wordOfToken_17 (by decide) (fun _ => ?_) (fun h9 => absurd (rfl) h9)
    refine g_aload_n (i := 0) hX dX8_wordOfToken_22 rfl rfl ?_
    refine g_ldcS (i := 1) hX (by decide) rfl rfl dX8_wordOfToken_23 ?_
    refine sX8_73 hX ⟨Nat.le_of_ble_eq_true rfl, Nat.le_of_ble_eq_true rfl⟩ (Nat.le_of_ble_eq_true rfl) dX8_wordOfToken_25 (c1) ?_
    refine g_if_eq (tgt := 33) hX dX8_wordOfToken_28 (by decide) (fun _ => ?_) (fun h9 => absurd (rfl) h9)
    refine g_aload_n (i := 0) hX dX8_wordOfToken_33 rfl rfl ?_
    refine g_ldcS (i := 2) hX (by decide) rfl rfl dX8_wordOfToken_34 ?_
    refine sX8_73 hX ⟨Nat.le_of_ble_eq_true rfl, Nat.le_of_ble_eq_true rfl⟩ (Nat.le_of_ble_eq_true rfl) dX8_wordOfToken_36 (c2) ?_
    refine g_if_eq (tgt := 44) hX dX8_wordOfToken_39 (by decide) (fun _ => ?_) (fun h9 => absurd (rfl) h9)
    refine g_aload_n (i := 0) hX dX8_wordOfToken_44 rfl rfl ?_
    refine g_ldcS (i := 3) hX (by decide) rfl rfl dX8_wordOfToken_45 ?_
    refine sX8_73 hX ⟨Nat.le_of_ble_eq_true rfl, Nat.le_of_ble_eq_true rfl⟩ (Nat.le_of_ble_eq_true rfl) dX8_wordOfToken_47 (c3) ?_
    refine g_if_eq (tgt := 55) hX dX8_wordOfToken_50 (by decide) (fun _ => ?_) (fun h9 => absurd (rfl) h9)
    refine g_aload_n (i := 0) hX dX8_wordOfToken_55 rfl rfl ?_
    refine g_ldcS (i := 4) hX (by decide) rfl rfl dX8_wordOfToken_56 ?_
    refine sX8_73 hX ⟨Nat.le_of_ble_eq_true rfl, Nat.le_of_ble_eq_true rfl⟩ (Nat.le_of_ble_eq_true rfl) dX8_wordOfToken_58 (c4) ?_
    refine g_if_eq (tgt := 68) hX dX8_wordOfToken_61 (by decide) (fun _ => ?_) (fun h9 => absurd (rfl) h9)
    refine g_ldc hX ccX8_70 dX8_wordOfToken_68 ?_
    refine g_iret (st := []) hX hE rfl dX8_wordOfToken_70 (⟨rfl, rfl⟩)
  · rw [show wdN b n g = 5 from if_neg hk, if_neg (by decide)] at hE
    refine g_aload_n (i := 0) hX dX8_wordOfToken_0 rfl rfl ?_
    refine fX8_30 hX dX8_wordOfToken_1 ?_
    refine g_iconst hX dX8_wordOfToken_4 ic1 ?_
    refine g_icmp_eq (tgt := 11) hX dX8_wordOfToken_5 (by decide) (fun h9 => absurd h9 ((by rw [h5]; exact nI_ne (b := 1) (by omega) (by decide) hk))) (fun _ => ?_)
    refine g_ldc hX ccX8_70 dX8_wordOfToken_8 ?_
    refine g_iret (st := []) hX hE rfl dX8_wordOfToken_10 (⟨rfl, rfl⟩)
abbrev Otk : List (Nat × Nat) := [(50, 3), (50, 4), (50, 5), (50, 6)]
def tlC (S : St) (b : Nat → Nat) (n : Nat) (t : TL) (r : Int32) (S1 : St) : Prop := r = nI t.1 ∧ S1.1 50 3 = nI t.2.1 ∧ S1.1 50 4 = nI (tkE b n t.2.1) ∧ (t.1 = 0 → ∀ p, p < 4 → ∀ q, S1.1 (40 + p) q = if p = t.2.2.1 ∧ q = t.2.2.2.1 then nI t.2.2.2.2 else S.1 (40 + p) q) ∧ Fq [40, 41, 42, 43] Otk S S1
theorem c_readTelling {Γ : GG} {S : St} {n g : Nat} {b : Nat → Nat} (hb : BtC S n b) (hg : g ≤ n) (h3 : S.1 50 3 = nI g) (h4 : S.1 50 4 = nI (tkE b n g)) (h5 : S.1 50 5 = nI (tkK b n g)) : kX8_readTelling Γ [.ref (Γ.1 50)] S (eI (tlC S b n (tel b n g))) := by
  refine oX8_readTelling (fun X hX hE => ?_)
  obtain ⟨e1, e2⟩ := tkE_ok (b := b) hg
  have h400 := hb.1
  have cw := c_wordOfToken (Γ := Γ) hb hg h3 h4 h5
  have A70 : ∀ T i0 wd p s (sl hm : Int32), wd < 5 → p < 4 → s < 11 → (sVl.getD 0 []).getD wd 0 = nI p → (sVl.getD 1 []).getD wd 0 = hm → (hm = 0 ∧ s = 10 ∨ (¬ hm = 0 ∧ sl = nI s)) → i0 ≤ n → T.1 50 4 = nI i0 → Fq [] Otk S T → tel b n g = telE b n (tkG b n i0) p s → G Γ X T 70 [(0, .ref (Γ.1 50)), (1, .int (nI wd)), (2, .int sl)] [] := by
    intro T i0 wd p s sl hm hwd hp hs v0 v1 hsl hi0 t4 hF ht
    have hbT := hb.q hF (by decide)
    obtain ⟨y1, y2⟩ := tkG_ok (b := b) hi0
    refine g_aload_n (i := 0) hX dX8_readTelling_70 rfl rfl ?_
    refine g_iconst hX dX8_readTelling_71 ic0 ?_
    refine g_bipush hX dX8_readTelling_72 bp99 ?_
    refine eX8_62 hX ⟨Nat.le_of_ble_eq_true rfl, Nat.le_of_ble_eq_true rfl⟩ (Nat.le_of_ble_eq_true rfl) dX8_readTelling_74 ((c_readNumber (lo := 0) (hi := 99) hbT hi0 t4 (by decide) (by decide))) (fun r U hU => ?_)
    obtain ⟨rfl, ⟨u3, u4, u6⟩, hFU⟩ := hU
    have hF2 := hF.tr hFU
    generalize tkG b n i0 = gw at *
    have hle := numF_le b n gw 0 99
    by_cases q1 : numF b n gw 0 99 = 0
    · obtain ⟨k2, -, k3⟩ := numF_0 q1
      have hv6 := u6 k2
      have hbU := hb.q hF2 (by decide)
      obtain ⟨z1, z2⟩ := tkE_ok (b := b) y2
      rw [q1]
      refine g_istore_n (i := 3) hX dX8_readTelling_77 rfl (by decide) rfl ?_
      refine g_iload_n (i := 3) hX dX8_readTelling_78 rfl rfl ?_
      refine g_if_eq (tgt := 84) hX dX8_readTelling_79 (by decide) (fun _ => ?_) (fun h9 => absurd (rfl) h9)
      refine g_aload_n (i := 0) hX dX8_readTelling_84 rfl rfl ?_
      refine fX8_33 hX dX8_readTelling_85 ?_
      refine g_istore hX dX8_readTelling_88 (by decide) rfl ?_
      refine g_aload_n (i := 0) hX dX8_readTelling_90 rfl rfl ?_
      refine eX8_40 hX ⟨Nat.le_of_ble_eq_true rfl, Nat.le_of_ble_eq_true rfl⟩ (Nat.le_of_ble_eq_true rfl) dX8_readTelling_91 ((c_nextToken hbU z2 u4)) (fun V hV => ?_)
      obtain ⟨w3, w4, w5, -, hFV⟩ := hV
      rw [hv6]
      have w3' : V.1 50 3 = nI (nx b n gw) := w3
      have w4' : V.1 50 4 = nI (tkE b n (nx b n gw)) := w4
      have w5' : V.1 50 5 = nI (tkK b n (nx b n gw)) := w5
      have hk4 := tkK_le b n (nx b n gw)
      by_cases q2 : tkK b n (nx b n gw) = 3
      · have et : tel b n g = (0, nx b n gw, p, s, vl b n gw) := by rw [ht]; unfold telE; rw [if_pos q1, if_pos q2]
        rw [et] at hE
        have ct := c_tell (Γ := Γ) (S := V) (v := nI (vl b n gw)) hp hs
        have hF3 := hF2.tr hFV
        have fin : tlC S b n (0, nx b n gw, p, s, vl b n gw) 0 (pI V (40 + p) s (nI (vl b n gw))) := by
          have n50 : (pI V (40 + p) s (nI (vl b n gw))).1 50 = V.1 50 := pR_ne _ _ (by omega)
          refine ⟨rfl, by rw [n50]; exact w3', by rw [n50]; exact w4', fun _ p' hp' q => ?_, (hF3.mono (fun _ z => by cases z) (fun _ z => Or.inl z)).R (by simp only [List.mem_cons, List.not_mem_nil, or_false]; omega)⟩
          have e40 : V.1 (40 + p') = S.1 (40 + p') := hF3.row (fun z => by cases z) (by simp only [Otk, List.mem_cons, List.not_mem_nil, or_false]; rintro x (rfl | rfl | rfl | rfl) <;> (show ¬ 50 = _; omega))
          show _ = if p' = p ∧ q = s then nI (vl b n gw) else S.1 (40 + p') q
          by_cases ep : p' = p
          · subst ep
            rw [pR_self]
            by_cases eq : q = s
            · subst eq; rw [upd_self, if_pos ⟨rfl, rfl⟩]
            · rw [upd_ne _ _ eq, if_neg (fun z => eq z.2), e40]
          · rw [pR_ne _ _ (by omega), if_neg (fun z => ep z.1), e40]
        have ci : (nI wd).toNatClampNeg = wd := nI_clamp (by omega)
        rcases hsl with ⟨m0, rfl⟩ | ⟨m0, rfl⟩
        · refine g_aload_n (i := 0) hX dX8_readTelling_94 rfl rfl ?_
          refine fX8_30 hX dX8_readTelling_95 ?_
          refine g_iconst hX dX8_readTelling_98 ic3 ?_
          refine g_icmp_eq (tgt := 104) hX dX8_readTelling_99 (by decide) (fun _ => ?_) (fun h9 => absurd ((by rw [w5', q2]; rfl)) h9)
          refine g_aload_n (i := 0) hX dX8_readTelling_104 rfl rfl ?_
          refine g_getstatic (i := 0) hX (by decide) rfl rfl wg50 dX8_readTelling_105 ?_
          refine g_iload_n (i := 1) hX dX8_readTelling_108 rfl rfl ?_
          refine g_ialoadS hX (by decide) (vp_in_nI hwd (by decide)) ((by rw [ci]; exact v0 : (sVl.getD 0 []).getD (nI wd).toNatClampNeg 0 = nI p)) dX8_readTelling_109 ?_
          refine g_getstatic (i := 1) hX (by decide) rfl rfl wg53 dX8_readTelling_110 ?_
          refine g_iload_n (i := 1) hX dX8_readTelling_113 rfl rfl ?_
          refine g_ialoadS hX (by decide) (vp_in_nI hwd (by decide)) ((by rw [ci]; exact v1 : (sVl.getD 1 []).getD (nI wd).toNatClampNeg 0 = hm)) dX8_readTelling_114 ?_
          refine g_if_ne (tgt := 123) hX dX8_readTelling_115 (by decide) (fun h9 => absurd (m0) h9) (fun _ => ?_)
          refine g_bipush hX dX8_readTelling_118 bp10 ?_
          refine g_goto (tgt := 124) hX dX8_readTelling_120 (by decide) ?_
          refine g_iload hX dX8_readTelling_124 rfl ?_
          refine sX8_66 hX ⟨Nat.le_of_ble_eq_true rfl, Nat.le_of_ble_eq_true rfl⟩ (Nat.le_of_ble_eq_true rfl) dX8_readTelling_126 (ct) ?_
          refine g_iconst hX dX8_readTelling_129 ic0 ?_
          refine g_iret (st := []) hX hE rfl dX8_readTelling_130 (⟨_, rfl, fin⟩)
        · refine g_aload_n (i := 0) hX dX8_readTelling_94 rfl rfl ?_
          refine fX8_30 hX dX8_readTelling_95 ?_
          refine g_iconst hX dX8_readTelling_98 ic3 ?_
          refine g_icmp_eq (tgt := 104) hX dX8_readTelling_99 (by decide) (fun _ => ?_) (fun h9 => absurd ((by rw [w5', q2]; rfl)) h9)
          refine g_aload_n (i := 0) hX dX8_readTelling_104 rfl rfl ?_
          refine g_getstatic (i := 0) hX (by decide) rfl rfl wg50 dX8_readTelling_105 ?_
          refine g_iload_n (i := 1) hX dX8_readTelling_108 rfl rfl ?_
          refine g_ialoadS hX (by decide) (vp_in_nI hwd (by decide)) ((by rw [ci]; exact v0 : (sVl.getD 0 []).getD (nI wd).toNatClampNeg 0 = nI p)) dX8_readTelling_109 ?_
          refine g_getstatic (i := 1) hX (by decide) rfl rfl wg53 dX8_readTelling_110 ?_
          refine g_iload_n (i := 1) hX dX8_readTelling_113 rfl rfl ?_
          refine g_ialoadS hX (by decide) (vp_in_nI hwd (by decide)) ((by rw [ci]; exact v1 : (sVl.getD 1 []).getD (nI wd).toNatClampNeg 0 = hm)) dX8_readTelling_114 ?_
          refine g_if_ne (tgt := 123) hX dX8_readTelling_115 (by decide) (fun _ => ?_) (fun h9 => absurd h9 (m0))
          refine g_iload_n (i := 2) hX dX8_readTelling_123 rfl rfl ?_
          refine g_iload hX dX8_readTelling_124 rfl ?_
          refine sX8_66 hX ⟨Nat.le_of_ble_eq_true rfl, Nat.le_of_ble_eq_true rfl⟩ (Nat.le_of_ble_eq_true rfl) dX8_readTelling_126 (ct) ?_
          refine g_iconst hX dX8_readTelling_129 ic0 ?_
          refine g_iret (st := []) hX hE rfl dX8_readTelling_130 (⟨_, rfl, fin⟩)
      · have et : tel b n g = (1, nx b n gw, 0, 0, 0) := by rw [ht]; unfold telE; rw [if_pos q1, if_neg q2]
        rw [et] at hE
        refine g_aload_n (i := 0) hX dX8_readTelling_94 rfl rfl ?_
        refine fX8_30 hX dX8_readTelling_95 ?_
        refine g_iconst hX dX8_readTelling_98 ic3 ?_
        refine g_icmp_eq (tgt := 104) hX dX8_readTelling_99 (by decide) (fun h9 => absurd h9 ((by rw [w5']; exact nI_ne (b := 3) (by omega) (by decide) q2))) (fun _ => ?_)
        refine g_iconst hX dX8_readTelling_102 ic1 ?_
        refine g_iret (st := []) hX hE rfl dX8_readTelling_103 (⟨_, rfl, rfl, w3', w4', fun z => absurd z Nat.one_ne_zero, (hF2.tr hFV).mono (fun _ z => by cases z) (fun _ z => Or.inl z)⟩)
    · have et : tel b n g = (numF b n gw 0 99, gw, 0, 0, 0) := by rw [ht]; unfold telE; rw [if_neg q1]
      rw [et] at hE
      refine g_istore_n (i := 3) hX dX8_readTelling_77 rfl (by decide) rfl ?_
      refine g_iload_n (i := 3) hX dX8_readTelling_78 rfl rfl ?_
      refine g_if_eq (tgt := 84) hX dX8_readTelling_79 (by decide) (fun h9 => absurd h9 ((nI_ne0 (by omega) (by omega)))) (fun _ => ?_)
      refine g_iload_n (i := 3) hX dX8_readTelling_82 rfl rfl ?_
      refine g_iret (st := []) hX hE rfl dX8_readTelling_83 (⟨_, rfl, rfl, u3, u4, fun z => absurd z q1, hF2.mono (fun _ z => by cases z) (fun _ z => Or.inl z)⟩)
  have A22 : ∀ T i0 wd hm lo hi k sl, wd < 5 → (sVl.getD 1 []).getD wd 0 = nI hm → (sVl.getD 2 []).getD wd 0 = nI lo → (sVl.getD 3 []).getD wd 0 = nI hi → lo < 100 → hi < 100 → k < hm → hm < 3 → i0 ≤ n → T.1 50 4 = nI i0 → Fq [] Otk S T →
      (¬ numF b n (tkG b n i0) lo hi = 0 → tel b n g = (numF b n (tkG b n i0) lo hi, tkG b n i0, 0, 0, 0)) →
      (numF b n (tkG b n i0) lo hi = 0 → ∀ U, U.1 50 4 = nI (tkE b n (tkG b n i0)) → Fq [] Otk S U → G Γ X U 22 [(0, .ref (Γ.1 50)), (1, .int (nI wd)), (2, .int (nI (sl * 3 + vl b n (tkG b n i0)))), (3, .int (nI (k + 1)))] []) →
      G Γ X T 22 [(0, .ref (Γ.1 50)), (1, .int (nI wd)), (2, .int (nI sl)), (3, .int (nI k))] [] := by
    intro T i0 wd hm lo hi k sl hwd v1 v2 v3 hlo hhi hk hm3 hi0 t4 hF hbad hgood
    have hbT := hb.q hF (by decide)
    have ci : (nI wd).toNatClampNeg = wd := nI_clamp (by omega)
    refine g_iload_n (i := 3) hX dX8_readTelling_22 rfl rfl ?_
    refine g_getstatic (i := 1) hX (by decide) rfl rfl wg53 dX8_readTelling_23 ?_
    refine g_iload_n (i := 1) hX dX8_readTelling_26 rfl rfl ?_
    refine g_ialoadS hX (by decide) (vp_in_nI hwd (by decide)) ((by rw [ci]; exact v1 : (sVl.getD 1 []).getD (nI wd).toNatClampNeg 0 = nI hm)) dX8_readTelling_27 ?_
    refine g_icmp_ge (tgt := 70) hX dX8_readTelling_28 (by decide) (fun h9 => absurd h9 (nI_ge hk (by omega))) (fun _ => ?_)
    refine g_aload_n (i := 0) hX dX8_readTelling_31 rfl rfl ?_
    refine g_getstatic (i := 2) hX (by decide) rfl rfl wg56 dX8_readTelling_32 ?_
    refine g_iload_n (i := 1) hX dX8_readTelling_35 rfl rfl ?_
    refine g_ialoadS hX (by decide) (vp_in_nI hwd (by decide)) ((by rw [ci]; exact v2 : (sVl.getD 2 []).getD (nI wd).toNatClampNeg 0 = nI lo)) dX8_readTelling_36 ?_
    refine g_getstatic (i := 3) hX (by decide) rfl rfl wg59 dX8_readTelling_37 ?_
    refine g_iload_n (i := 1) hX dX8_readTelling_40 rfl rfl ?_
    refine g_ialoadS hX (by decide) (vp_in_nI hwd (by decide)) ((by rw [ci]; exact v3 : (sVl.getD 3 []).getD (nI wd).toNatClampNeg 0 = nI hi)) dX8_readTelling_41 ?_
    refine eX8_62 hX ⟨Nat.le_of_ble_eq_true rfl, Nat.le_of_ble_eq_true rfl⟩ (Nat.le_of_ble_eq_true rfl) dX8_readTelling_42 ((c_readNumber (lo := lo) (hi := hi) hbT hi0 t4 hlo hhi)) (fun r U hU => ?_)
    obtain ⟨rfl, ⟨u3, u4, u6⟩, hFU⟩ := hU
    have hF2 := hF.tr hFU
    have hle := numF_le b n (tkG b n i0) lo hi
    by_cases q1 : numF b n (tkG b n i0) lo hi = 0
    · obtain ⟨k2, -, k3⟩ := numF_0 q1
      have hv6 : U.1 50 6 = nI (vl b n (tkG b n i0)) := u6 k2
      rw [q1]
      refine g_istore hX dX8_readTelling_45 (by decide) rfl ?_
      refine g_iload hX dX8_readTelling_47 rfl ?_
      refine g_if_eq (tgt := 55) hX dX8_readTelling_49 (by decide) (fun _ => ?_) (fun h9 => absurd (rfl) h9)
      refine g_iload_n (i := 2) hX dX8_readTelling_55 rfl rfl ?_
      refine g_iconst hX dX8_readTelling_56 ic3 ?_
      refine g_imul hX dX8_readTelling_57 ?_
      refine g_aload_n (i := 0) hX dX8_readTelling_58 rfl rfl ?_
      refine fX8_33 hX dX8_readTelling_59 ?_
      refine g_iadd hX dX8_readTelling_62 ?_
      rw [hv6, show (3 : Int32) = nI 3 from rfl, nI_mul, nI_add2]
      refine g_istore_n (i := 2) hX dX8_readTelling_63 rfl (by decide) rfl ?_
      refine g_iinc hX dX8_readTelling_64 rfl ic1 (by decide) rfl ?_
      refine g_goto (tgt := 22) hX dX8_readTelling_67 (by decide) ?_
      rw [nI_1]
      exact g_weak (hgood q1 U u4 hF2) (as_c rfl (as_c rfl (as_c rfl (as_c rfl (as_n)))))
    · rw [hbad q1] at hE
      refine g_istore hX dX8_readTelling_45 (by decide) rfl ?_
      refine g_iload hX dX8_readTelling_47 rfl ?_
      refine g_if_eq (tgt := 55) hX dX8_readTelling_49 (by decide) (fun h9 => absurd h9 ((nI_ne0 (by omega) (by omega)))) (fun _ => ?_)
      refine g_iload hX dX8_readTelling_52 rfl ?_
      refine g_iret (st := []) hX hE rfl dX8_readTelling_54 (⟨_, rfl, rfl, u3, u4, fun z => absurd z q1, hF2.mono (fun _ z => by cases z) (fun _ z => Or.inl z)⟩)
  have A22e : ∀ T i0 wd hm p s sl, wd < 5 → p < 4 → s < 11 → (sVl.getD 0 []).getD wd 0 = nI p → (sVl.getD 1 []).getD wd 0 = nI hm → hm < 3 → (hm = 0 ∧ s = 10 ∨ (0 < hm ∧ sl = s)) → i0 ≤ n → T.1 50 4 = nI i0 → Fq [] Otk S T → tel b n g = telE b n (tkG b n i0) p s → G Γ X T 22 [(0, .ref (Γ.1 50)), (1, .int (nI wd)), (2, .int (nI sl)), (3, .int (nI hm))] [] := by
    intro T i0 wd hm p s sl hwd hp hs v0 v1 hm3 hsl hi0 t4 hF ht
    have ci : (nI wd).toNatClampNeg = wd := nI_clamp (by omega)
    refine g_iload_n (i := 3) hX dX8_readTelling_22 rfl rfl ?_
    refine g_getstatic (i := 1) hX (by decide) rfl rfl wg53 dX8_readTelling_23 ?_
    refine g_iload_n (i := 1) hX dX8_readTelling_26 rfl rfl ?_
    refine g_ialoadS hX (by decide) (vp_in_nI hwd (by decide)) ((by rw [ci]; exact v1 : (sVl.getD 1 []).getD (nI wd).toNatClampNeg 0 = nI hm)) dX8_readTelling_27 ?_
    refine g_icmp_ge (tgt := 70) hX dX8_readTelling_28 (by decide) (fun _ => ?_) (fun h9 => absurd (nI_le (Nat.le_refl _) (by omega)) h9)
    refine g_weak (A70 T i0 wd p s (nI sl) (nI hm) hwd hp hs v0 v1 ?_ hi0 t4 hF ht) (as_c rfl (as_c rfl (as_c rfl (as_n))))
    rcases hsl with ⟨rfl, rfl⟩ | ⟨h1, rfl⟩
    · exact Or.inl ⟨rfl, rfl⟩
    · exact Or.inr ⟨nI_ne0 h1 (by omega), rfl⟩
  have hw5 := wdN_le b n g
  have sVlen : (5 : Int32) = nI 5 := rfl
  by_cases hw : wdN b n g = 5
  · have et : tel b n g = (1, g, 0, 0, 0) := by unfold tel; rw [hw]; rfl
    rw [et] at hE
    rw [hw, if_neg (by decide)] at cw
    refine g_aload_n (i := 0) hX dX8_readTelling_0 rfl rfl ?_
    refine sX8_47 hX ⟨Nat.le_of_ble_eq_true rfl, Nat.le_of_ble_eq_true rfl⟩ (Nat.le_of_ble_eq_true rfl) dX8_readTelling_1 (cw) ?_
    refine g_istore_n (i := 1) hX dX8_readTelling_4 rfl (by decide) rfl ?_
    refine g_iload_n (i := 1) hX dX8_readTelling_5 rfl rfl ?_
    refine g_getstatic (i := 0) hX (by decide) rfl rfl wg50 dX8_readTelling_6 ?_
    refine g_alenS hX (by decide) dX8_readTelling_9 ?_
    refine sX8_36 hX ⟨Nat.le_of_ble_eq_true rfl, Nat.le_of_ble_eq_true rfl⟩ (Nat.le_of_ble_eq_true rfl) dX8_readTelling_10 (isB_f (n := 5) (by decide) (by rintro ⟨j, hj, e⟩; rcases (by omega : j = 0 ∨ j = 1 ∨ j = 2 ∨ j = 3 ∨ j = 4) with rfl | rfl | rfl | rfl | rfl <;> exact absurd e (by decide))) ?_
    refine g_if_ne (tgt := 18) hX dX8_readTelling_13 (by decide) (fun h9 => absurd (rfl) h9) (fun _ => ?_)
    refine g_iconst hX dX8_readTelling_16 ic1 ?_
    refine g_iret (st := []) hX hE rfl dX8_readTelling_17 (⟨_, rfl, rfl, h3, h4, fun z => absurd z Nat.one_ne_zero, Fq.rf⟩)
  · rw [if_pos (by omega)] at cw
    refine g_aload_n (i := 0) hX dX8_readTelling_0 rfl rfl ?_
    refine sX8_47 hX ⟨Nat.le_of_ble_eq_true rfl, Nat.le_of_ble_eq_true rfl⟩ (Nat.le_of_ble_eq_true rfl) dX8_readTelling_1 (cw) ?_
    refine g_istore_n (i := 1) hX dX8_readTelling_4 rfl (by decide) rfl ?_
    refine g_iload_n (i := 1) hX dX8_readTelling_5 rfl rfl ?_
    refine g_getstatic (i := 0) hX (by decide) rfl rfl wg50 dX8_readTelling_6 ?_
    refine g_alenS hX (by decide) dX8_readTelling_9 ?_
    refine sX8_36 hX ⟨Nat.le_of_ble_eq_true rfl, Nat.le_of_ble_eq_true rfl⟩ (Nat.le_of_ble_eq_true rfl) dX8_readTelling_10 (isB_t (n := 5) (by omega) (by decide)) ?_
    refine g_if_ne (tgt := 18) hX dX8_readTelling_13 (by decide) (fun _ => ?_) (fun h9 => absurd h9 ((by decide)))
    refine g_iconst hX dX8_readTelling_18 ic0 ?_
    refine g_istore_n (i := 2) hX dX8_readTelling_19 rfl (by decide) rfl ?_
    refine g_iconst hX dX8_readTelling_20 ic0 ?_
    refine g_istore_n (i := 3) hX dX8_readTelling_21 rfl (by decide) rfl ?_
    rcases (by omega : wdN b n g = 0 ∨ wdN b n g = 1 ∨ wdN b n g = 2 ∨ wdN b n g = 3 ∨ wdN b n g = 4) with hw | hw | hw | hw | hw
    · have et : tel b n g = tel1 b n (nx b n g) 0 9 0 := by unfold tel; rw [if_pos hw]
      rw [hw]
      refine A22 S _ 0 1 0 9 0 0 (by decide) (by decide) (by decide) (by decide) (by decide) (by decide) (by decide) (by decide) e2 h4 Fq.rf (fun q => by rw [et]; unfold tel1; exact if_neg q) (fun q U u4 hF => ?_)
      obtain ⟨k2, k3, k4⟩ := numF_0 q
      exact A22e U _ 0 1 0 _ _ (by decide) (by decide) (by omega) (by decide) (by decide) (by decide) (Or.inr ⟨by decide, Nat.zero_add _⟩) (tkE_ok (nx_ok hg).2).2 u4 hF (by rw [et]; unfold tel1; exact if_pos q)
    · have et : tel b n g = tel1 b n (nx b n g) 0 9 1 := by unfold tel; rw [hw]; rfl
      rw [hw]
      refine A22 S _ 1 1 0 9 0 0 (by decide) (by decide) (by decide) (by decide) (by decide) (by decide) (by decide) (by decide) e2 h4 Fq.rf (fun q => by rw [et]; unfold tel1; exact if_neg q) (fun q U u4 hF => ?_)
      obtain ⟨k2, k3, k4⟩ := numF_0 q
      exact A22e U _ 1 1 1 _ _ (by decide) (by decide) (by omega) (by decide) (by decide) (by decide) (Or.inr ⟨by decide, Nat.zero_add _⟩) (tkE_ok (nx_ok hg).2).2 u4 hF (by rw [et]; unfold tel1; exact if_pos q)
    · have et : tel b n g = telE b n (nx b n g) 1 10 := by unfold tel; rw [hw]; rfl
      rw [hw]
      exact A22e S _ 2 0 1 10 0 (by decide) (by decide) (by decide) (by decide) (by decide) (by decide) (Or.inl ⟨rfl, rfl⟩) e2 h4 Fq.rf et
    · have et : tel b n g = tel1 b n (nx b n g) 1 9 2 := by unfold tel; rw [hw]; rfl
      rw [hw]
      refine A22 S _ 3 1 1 9 0 0 (by decide) (by decide) (by decide) (by decide) (by decide) (by decide) (by decide) (by decide) e2 h4 Fq.rf (fun q => by rw [et]; unfold tel1; exact if_neg q) (fun q U u4 hF => ?_)
      obtain ⟨k2, k3, k4⟩ := numF_0 q
      exact A22e U _ 3 1 2 _ _ (by decide) (by decide) (by omega) (by decide) (by decide) (by decide) (Or.inr ⟨by decide, Nat.zero_add _⟩) (tkE_ok (nx_ok hg).2).2 u4 hF (by rw [et]; unfold tel1; exact if_pos q)
    · have et : tel b n g = tel2 b n (nx b n g) := by unfold tel; rw [hw]; rfl
      rw [hw]
      refine A22 S _ 4 2 0 2 0 0 (by decide) (by decide) (by decide) (by decide) (by decide) (by decide) (by decide) (by decide) e2 h4 Fq.rf (fun q => by rw [et]; unfold tel2; exact if_neg q) (fun q U u4 hF => ?_)
      have q' : numF b n (nx b n g) 0 2 = 0 := q
      obtain ⟨k2, k3, k4⟩ := numF_0 q'
      have z2 := (tkE_ok (b := b) (nx_ok (b := b) hg).2).2
      refine A22 U _ 4 2 0 2 1 _ (by decide) (by decide) (by decide) (by decide) (by decide) (by decide) (by decide) (by decide) z2 u4 hF (fun q2 => by rw [et]; unfold tel2; rw [if_pos q']; exact if_neg q2) (fun q2 V v4 hFV => ?_)
      obtain ⟨k5, k6, k7⟩ := numF_0 q2
      refine A22e V _ 4 2 3 (vl b n (nx b n g) * 3 + vl b n (nx b n (nx b n g))) _ (by decide) (by decide) ?_ (by decide) (by decide) (by decide) (Or.inr ⟨by decide, by rw [Nat.zero_mul, Nat.zero_add]; rfl⟩) (tkE_ok (nx_ok (nx_ok hg).2).2).2 v4 hFV (by rw [et]; unfold tel2; rw [if_pos q']; exact if_pos q2)
      have k7' : vl b n (nx b n (nx b n g)) ≤ 2 := k7
      omega
/-- the class's whole text -/
def runT (b : Nat → Nat) (n : Nat) : Nat → Nat → (Nat → Nat → Nat) → Nat × Nat × (Nat → Nat → Nat)
  | 0, g, W => (0, g, W)
  | d + 1, g, W => if tkK b n g = 0 then (0, g, W) else if (tel b n g).1 = 0 then runT b n d (nx b n (tel b n g).2.1) (fun p s => if p = (tel b n g).2.2.1 ∧ s = (tel b n g).2.2.2.1 then (tel b n g).2.2.2.2 else W p s) else ((tel b n g).1, (tel b n g).2.1, W)
def rdC (S : St) (W : Nat → Nat → Nat) : Prop := ∀ p, p < 4 → ∀ i, i < 11 → S.1 (40 + p) i = nI (W p i)
theorem c_readAll {Γ : GG} {S : St} {n : Nat} {b : Nat → Nat} {W : Nat → Nat → Nat} (hb : BtC S n b) (hW : rdC S W) : kX8_readAll Γ [.ref (Γ.1 50)] S (eI (fun r S1 => r = nI (runT b n (n + 1) (tkG b n 0) W).1 ∧ (¬ (runT b n (n + 1) (tkG b n 0) W).1 = 0 → S1.1 50 3 = nI (runT b n (n + 1) (tkG b n 0) W).2.1) ∧ ((runT b n (n + 1) (tkG b n 0) W).1 = 0 → rdC S1 (runT b n (n + 1) (tkG b n 0) W).2.2) ∧ Fq [40, 41, 42, 43] Otk S S1)) := by
  refine oX8_readAll (fun X hX hE => ?_)
  have h400 := hb.1
  have loop : ∀ d g i T V, n + 1 ≤ g + d → g ≤ n → i ≤ g → T.1 50 3 = nI g → T.1 50 4 = nI (tkE b n g) → T.1 50 5 = nI (tkK b n g) → rdC T V → Fq [40, 41, 42, 43] Otk S T → runT b n d g V = runT b n (n + 1) (tkG b n 0) W → G Γ X T 11 [(0, .ref (Γ.1 50)), (1, .int (nI i))] [] := by
    intro d
    induction d with
    | zero => intro g i T V h1 h2; omega
    | succ d ih =>
      intro g i T V h1 h2 hi t3 t4 t5 hV hF he
      have hbT := hb.q hF (by decide)
      have hk4 := tkK_le b n g
      rw [runT] at he
      by_cases q0 : tkK b n g = 0
      · rw [if_pos q0] at he
        rw [← he] at hE
        have pst : ∃ r, (some (.int 0) : Option Value) = some (.int r) ∧ r = nI 0 ∧ (¬ (0 : Nat) = 0 → T.1 50 3 = nI g) ∧ ((0 : Nat) = 0 → rdC T V) ∧ Fq [40, 41, 42, 43] Otk S T := ⟨0, rfl, rfl, fun z => absurd rfl z, fun _ => hV, hF⟩
        by_cases q9 : 400 ≤ i
        · refine g_iload_n (i := 1) hX dX8_readAll_11 rfl rfl ?_
          refine g_sipush hX dX8_readAll_12 sp400 ?_
          refine g_icmp_ge (tgt := 46) hX dX8_readAll_15 (by decide) (fun _ => ?_) (fun h9 => absurd (nI_le (a := 400) q9 (by omega)) h9)
          refine g_iconst hX dX8_readAll_46 ic0 ?_
          refine g_iret (st := []) hX hE rfl dX8_readAll_47 (pst)
        · refine g_iload_n (i := 1) hX dX8_readAll_11 rfl rfl ?_
          refine g_sipush hX dX8_readAll_12 sp400 ?_
          refine g_icmp_ge (tgt := 46) hX dX8_readAll_15 (by decide) (fun h9 => absurd h9 (nI_ge (b := 400) (by omega) (by decide))) (fun _ => ?_)
          refine g_aload_n (i := 0) hX dX8_readAll_18 rfl rfl ?_
          refine fX8_30 hX dX8_readAll_19 ?_
          refine g_if_eq (tgt := 46) hX dX8_readAll_22 (by decide) (fun _ => ?_) (fun h9 => absurd ((by rw [t5, q0]; rfl)) h9)
          refine g_iconst hX dX8_readAll_46 ic0 ?_
          refine g_iret (st := []) hX hE rfl dX8_readAll_47 (pst)
      · have hgn : g < n := by
          unfold tkK at q0
          by_cases z : n ≤ g
          · rw [if_pos z] at q0; exact absurd rfl q0
          · omega
        rw [if_neg q0] at he
        obtain ⟨⟨ok1, ok2, ok3⟩, ok4⟩ := tel_ok (b := b) h2
        refine g_iload_n (i := 1) hX dX8_readAll_11 rfl rfl ?_
        refine g_sipush hX dX8_readAll_12 sp400 ?_
        refine g_icmp_ge (tgt := 46) hX dX8_readAll_15 (by decide) (fun h9 => absurd h9 (nI_ge (b := 400) (by omega) (by decide))) (fun _ => ?_)
        refine g_aload_n (i := 0) hX dX8_readAll_18 rfl rfl ?_
        refine fX8_30 hX dX8_readAll_19 ?_
        refine g_if_eq (tgt := 46) hX dX8_readAll_22 (by decide) (fun h9 => absurd h9 ((by rw [t5]; exact nI_ne0 (by omega) (by omega)))) (fun _ => ?_)
        refine g_aload_n (i := 0) hX dX8_readAll_25 rfl rfl ?_
        refine eX8_43 hX ⟨Nat.le_of_ble_eq_true rfl, Nat.le_of_ble_eq_true rfl⟩ (Nat.le_of_ble_eq_true rfl) dX8_readAll_26 ((c_readTelling hbT h2 t3 t4 t5)) (fun r U hU => ?_)
        obtain ⟨rfl, u3, u4, uW, hFU⟩ := hU
        have hF2 := hF.tr hFU
        by_cases q1 : (tel b n g).1 = 0
        · rw [if_pos q1] at he
          have sg := tel_sign q1
          have sx := sign_nx ok2 sg
          have hbU := hb.q hF2 (by decide)
          have z2 := (tkE_ok (b := b) ok2).2
          rw [q1]
          refine g_istore_n (i := 2) hX dX8_readAll_29 rfl (by decide) rfl ?_
          refine g_iload_n (i := 2) hX dX8_readAll_30 rfl rfl ?_
          refine g_if_eq (tgt := 36) hX dX8_readAll_31 (by decide) (fun _ => ?_) (fun h9 => absurd (rfl) h9)
          refine g_aload_n (i := 0) hX dX8_readAll_36 rfl rfl ?_
          refine eX8_40 hX ⟨Nat.le_of_ble_eq_true rfl, Nat.le_of_ble_eq_true rfl⟩ (Nat.le_of_ble_eq_true rfl) dX8_readAll_37 ((c_nextToken hbU z2 u4)) (fun Y hY => ?_)
          obtain ⟨y3, y4, y5, -, hFY⟩ := hY
          refine g_iinc hX dX8_readAll_40 rfl ic1 (by decide) rfl ?_
          refine g_goto (tgt := 11) hX dX8_readAll_43 (by decide) ?_
          rw [nI_1]
          refine g_weak (ih (nx b n (tel b n g).2.1) (i + 1) Y _ (by omega) (nx_ok ok2).2 (by omega) y3 y4 y5 ?_ (hF2.tr (hFY.mono (fun _ z => by cases z) (fun _ z => Or.inl z))) he) (as_c rfl (as_c rfl (as_n)))
          intro p hp j hj
          have e40 : Y.1 (40 + p) = U.1 (40 + p) := hFY.row (fun z => by cases z) (by simp only [List.mem_cons, List.not_mem_nil, or_false]; rintro x (rfl | rfl | rfl | rfl) <;> (show ¬ 50 = _; omega))
          rw [e40, uW q1 p hp j]
          by_cases e : p = (tel b n g).2.2.1 ∧ j = (tel b n g).2.2.2.1
          · rw [if_pos e]; exact congrArg nI (if_pos e).symm
          · rw [if_neg e, hV p hp j hj]; exact congrArg nI (if_neg e).symm
        · rw [if_neg q1] at he
          rw [← he] at hE
          refine g_istore_n (i := 2) hX dX8_readAll_29 rfl (by decide) rfl ?_
          refine g_iload_n (i := 2) hX dX8_readAll_30 rfl rfl ?_
          refine g_if_eq (tgt := 36) hX dX8_readAll_31 (by decide) (fun h9 => absurd h9 ((nI_ne0 (by omega) (by omega)))) (fun _ => ?_)
          refine g_iload_n (i := 2) hX dX8_readAll_34 rfl rfl ?_
          refine g_iret (st := []) hX hE rfl dX8_readAll_35 (⟨_, rfl, rfl, fun _ => u3, fun z => absurd z q1, hF2⟩)
  have hF0 : Fq [40, 41, 42, 43] Otk S (pI S 50 4 0) := Fq.rf.I (by decide)
  refine g_aload_n (i := 0) hX dX8_readAll_0 rfl rfl ?_
  refine g_iconst hX dX8_readAll_1 ic0 ?_
  refine pX8_27 hX dX8_readAll_2 ?_
  refine g_aload_n (i := 0) hX dX8_readAll_5 rfl rfl ?_
  refine eX8_40 hX ⟨Nat.le_of_ble_eq_true rfl, Nat.le_of_ble_eq_true rfl⟩ (Nat.le_of_ble_eq_true rfl) dX8_readAll_6 ((c_nextToken (i0 := 0) (hb.q hF0 (by decide)) (Nat.zero_le _) (by rw [pR_self, upd_self]; rfl))) (fun T hT => ?_)
  obtain ⟨t3, t4, t5, -, hFT⟩ := hT
  refine g_iconst hX dX8_readAll_9 ic0 ?_
  refine g_istore_n (i := 1) hX dX8_readAll_10 rfl (by decide) rfl ?_
  have hF1 := hF0.tr (hFT.mono (fun _ z => by cases z) (fun _ z => Or.inl z))
  refine loop (n + 1) (tkG b n 0) 0 T W (by omega) (tkG_ok (Nat.zero_le _)).2 (Nat.zero_le _) t3 t4 t5 ?_ hF1 rfl
  intro p hp j hj
  have e40 : T.1 (40 + p) = (pI S 50 4 0).1 (40 + p) := hFT.row (fun z => by cases z) (by simp only [List.mem_cons, List.not_mem_nil, or_false]; rintro x (rfl | rfl | rfl | rfl) <;> (show ¬ 50 = _; omega))
  rw [e40, pR_ne _ _ (by omega)]
  exact hW p hp j hj
