/-! the class's number in a telling -/
/-- what a number in bounds comes to: 0, 1 not here, 2 not as told -/
def numF (b : Nat → Nat) (n g lo hi : Nat) : Nat := if tkK b n g = 2 then (if lo ≤ valN b g (tkE b n g - g) ∧ valN b g (tkE b n g - g) ≤ hi then 0 else 2) else 1
theorem tkK_le (b : Nat → Nat) (n g : Nat) : tkK b n g ≤ 4 := by
  unfold tkK
  split
  · omega
  · split
    · omega
    · split
      · split <;> omega
      · split <;> omega
theorem c_readNumber {Γ : GG} {S : St} {n i0 lo hi : Nat} {b : Nat → Nat} (hb : BtC S n b) (hi0 : i0 ≤ n) (h4 : S.1 50 4 = nI i0) (hlo : lo < 100) (hhi : hi < 100) :
    kX8_readNumber Γ [.ref (Γ.1 50), .int (nI lo), .int (nI hi)] S (eI (fun r S1 => r = nI (numF b n (tkG b n i0) lo hi) ∧ (S1.1 50 3 = nI (tkG b n i0) ∧ S1.1 50 4 = nI (tkE b n (tkG b n i0)) ∧ (tkK b n (tkG b n i0) = 2 → S1.1 50 6 = nI (valN b (tkG b n i0) (tkE b n (tkG b n i0) - tkG b n i0)))) ∧ Fq [] [(50, 3), (50, 4), (50, 5), (50, 6)] S S1)) := by
  refine oX8_readNumber (fun X hX hE => ?_)
  refine g_aload_n (i := 0) hX dX8_readNumber_0 rfl rfl ?_
  refine eX8_40 hX ⟨Nat.le_of_ble_eq_true rfl, Nat.le_of_ble_eq_true rfl⟩ (Nat.le_of_ble_eq_true rfl) dX8_readNumber_1 ((c_nextToken hb hi0 h4)) (fun T hT => ?_)
  obtain ⟨t3, t4, t5, t6, hF⟩ := hT
  generalize tkG b n i0 = g at *
  have hk := tkK_le b n g
  by_cases q : tkK b n g = 2
  · have h6 := t6 q
    have hv := valN_le (b := b) (f := g) (tkE b n g - g)
    have en : numF b n g lo hi = if lo ≤ valN b g (tkE b n g - g) ∧ valN b g (tkE b n g - g) ≤ hi then 0 else 2 := if_pos q
    rw [en] at hE
    generalize hV : valN b g (tkE b n g - g) = v at *
    by_cases q1 : v < lo
    · rw [if_neg (by omega)] at hE
      refine g_aload_n (i := 0) hX dX8_readNumber_4 rfl rfl ?_
      refine fX8_30 hX dX8_readNumber_5 ?_
      refine g_iconst hX dX8_readNumber_8 ic2 ?_
      refine g_icmp_eq (tgt := 14) hX dX8_readNumber_9 (by decide) (fun _ => ?_) (fun h9 => absurd ((by rw [t5, q]; rfl)) h9)
      refine g_aload_n (i := 0) hX dX8_readNumber_14 rfl rfl ?_
      refine fX8_33 hX dX8_readNumber_15 ?_
      refine g_iload_n (i := 1) hX dX8_readNumber_18 rfl rfl ?_
      refine g_icmp_lt (tgt := 30) hX dX8_readNumber_19 (by decide) (fun _ => ?_) (fun h9 => absurd ((by rw [h6]; exact (lt_nI (by omega) (by omega)).mpr q1)) h9)
      refine g_iconst hX dX8_readNumber_30 ic2 ?_
      refine g_goto (tgt := 35) hX dX8_readNumber_31 (by decide) ?_
      refine g_iret (st := []) hX hE rfl dX8_readNumber_35 (⟨_, rfl, rfl, ⟨t3, t4, fun _ => h6⟩, hF⟩)
    · by_cases q2 : v ≤ hi
      · rw [if_pos ⟨by omega, q2⟩] at hE
        refine g_aload_n (i := 0) hX dX8_readNumber_4 rfl rfl ?_
        refine fX8_30 hX dX8_readNumber_5 ?_
        refine g_iconst hX dX8_readNumber_8 ic2 ?_
        refine g_icmp_eq (tgt := 14) hX dX8_readNumber_9 (by decide) (fun _ => ?_) (fun h9 => absurd ((by rw [t5, q]; rfl)) h9)
        refine g_aload_n (i := 0) hX dX8_readNumber_14 rfl rfl ?_
        refine fX8_33 hX dX8_readNumber_15 ?_
        refine g_iload_n (i := 1) hX dX8_readNumber_18 rfl rfl ?_
        refine g_icmp_lt (tgt := 30) hX dX8_readNumber_19 (by decide) (fun h9 => absurd h9 ((by rw [h6]; exact fun z => q1 ((lt_nI (by omega) (by omega)).mp z)))) (fun _ => ?_)
        refine g_aload_n (i := 0) hX dX8_readNumber_22 rfl rfl ?_
        refine fX8_33 hX dX8_readNumber_23 ?_
        refine g_iload_n (i := 2) hX dX8_readNumber_26 rfl rfl ?_
        refine g_icmp_le (tgt := 34) hX dX8_readNumber_27 (by decide) (fun _ => ?_) (fun h9 => absurd ((by rw [h6]; exact nI_le q2 (by omega))) h9)
        refine g_iconst hX dX8_readNumber_34 ic0 ?_
        refine g_iret (st := []) hX hE rfl dX8_readNumber_35 (⟨_, rfl, rfl, ⟨t3, t4, fun _ => h6⟩, hF⟩)
      · rw [if_neg (by omega)] at hE
        refine g_aload_n (i := 0) hX dX8_readNumber_4 rfl rfl ?_
        refine fX8_30 hX dX8_readNumber_5 ?_
        refine g_iconst hX dX8_readNumber_8 ic2 ?_
        refine g_icmp_eq (tgt := 14) hX dX8_readNumber_9 (by decide) (fun _ => ?_) (fun h9 => absurd ((by rw [t5, q]; rfl)) h9)
        refine g_aload_n (i := 0) hX dX8_readNumber_14 rfl rfl ?_
        refine fX8_33 hX dX8_readNumber_15 ?_
        refine g_iload_n (i := 1) hX dX8_readNumber_18 rfl rfl ?_
        refine g_icmp_lt (tgt := 30) hX dX8_readNumber_19 (by decide) (fun h9 => absurd h9 ((by rw [h6]; exact fun z => q1 ((lt_nI (by omega) (by omega)).mp z)))) (fun _ => ?_)
        refine g_aload_n (i := 0) hX dX8_readNumber_22 rfl rfl ?_
        refine fX8_33 hX dX8_readNumber_23 ?_
        refine g_iload_n (i := 2) hX dX8_readNumber_26 rfl rfl ?_
        refine g_icmp_le (tgt := 34) hX dX8_readNumber_27 (by decide) (fun h9 => absurd h9 ((by rw [h6, i_le, nI_toInt (by omega), nI_toInt (by omega)]; omega))) (fun _ => ?_)
        refine g_iconst hX dX8_readNumber_30 ic2 ?_
        refine g_goto (tgt := 35) hX dX8_readNumber_31 (by decide) ?_
        refine g_iret (st := []) hX hE rfl dX8_readNumber_35 (⟨_, rfl, rfl, ⟨t3, t4, fun _ => h6⟩, hF⟩)
  · have en : numF b n g lo hi = 1 := if_neg q
    rw [en] at hE
    refine g_aload_n (i := 0) hX dX8_readNumber_4 rfl rfl ?_
    refine fX8_30 hX dX8_readNumber_5 ?_
    refine g_iconst hX dX8_readNumber_8 ic2 ?_
    refine g_icmp_eq (tgt := 14) hX dX8_readNumber_9 (by decide) (fun h9 => absurd h9 ((by rw [t5]; exact nI_ne (b := 2) (by omega) (by decide) q))) (fun _ => ?_)
    refine g_iconst hX dX8_readNumber_12 ic1 ?_
    refine g_iret (st := []) hX hE rfl dX8_readNumber_13 (⟨_, rfl, rfl, ⟨t3, t4, t6⟩, hF⟩)
