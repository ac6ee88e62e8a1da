/-! the reference's next token -/
def BtR (S : St) (n : Nat) (b : Nat → Nat) : Prop := n ≤ 400 ∧ S.1 67 15 = nI n ∧ ∀ j, j < n → S.1 78 j = nI (b j) ∧ b j < 256
theorem BtR.q {K : List Nat} {O : List (Nat × Nat)} {S S1 : St} {n : Nat} {b : Nat → Nat} (h : BtR S n b) (hF : Fq K O S S1) (c : (okS K O 67 15 && okR K O 78) = true) : BtR S1 n b := by
  simp only [Bool.and_eq_true] at c
  exact ⟨h.1, by rw [(hF.s c.1).1]; exact h.2.1, by rw [hF.r c.2]; exact h.2.2⟩
theorem c_byteAt {Γ : GG} {S : St} {n i : Nat} {b : Nat → Nat} (hb : BtR S n b) (hi : i ≤ n) : kX10_byteAt Γ [.ref (Γ.1 67), .int (nI i)] S (rI (if i < n then nI (b i) else -1000000) S) := by
  refine oX10_byteAt (fun X hX hE => ?_)
  have h400 := hb.1
  by_cases q : i < n
  · rw [if_pos q] at hE
    refine g_iload_n (i := 1) hX dX10_byteAt_0 rfl rfl ?_
    refine g_aload_n (i := 0) hX dX10_byteAt_1 rfl rfl ?_
    refine fX10_137 hX dX10_byteAt_2 ?_
    refine g_icmp_ge (tgt := 17) hX dX10_byteAt_5 (by decide) (fun h9 => absurd h9 ((by rw [hb.2.1]; exact nI_ge q (by omega)))) (fun _ => ?_)
    refine g_aload_n (i := 0) hX dX10_byteAt_8 rfl rfl ?_
    refine fX10_41 hX dX10_byteAt_9 ?_
    refine g_iload_n (i := 1) hX dX10_byteAt_12 rfl rfl ?_
    refine g_ialoadN hX (ia78) rfl ((show i < 400 by omega)) (by first | decide | assumption | omega) dX10_byteAt_13 ?_
    refine g_goto (tgt := 19) hX dX10_byteAt_14 (by decide) ?_
    refine g_iret (st := []) hX hE rfl dX10_byteAt_19 (⟨by rw [(hb.2.2 i q).1], rfl⟩)
  · rw [if_neg q] at hE
    refine g_iload_n (i := 1) hX dX10_byteAt_0 rfl rfl ?_
    refine g_aload_n (i := 0) hX dX10_byteAt_1 rfl rfl ?_
    refine fX10_137 hX dX10_byteAt_2 ?_
    refine g_icmp_ge (tgt := 17) hX dX10_byteAt_5 (by decide) (fun _ => ?_) (fun h9 => absurd ((by rw [hb.2.1]; exact nI_le (by omega) (by omega))) h9)
    refine g_ldc hX ccX10_106 dX10_byteAt_17 ?_
    refine g_iret (st := []) hX hE rfl dX10_byteAt_19 (⟨rfl, rfl⟩)
theorem c_isLetterR {Γ : GG} {S : St} {c : Nat} (hc : c < 256) : kX10_isLetter Γ [.int (nI c)] S (rI (if ltr c = true then 1 else 0) S) := by
  refine oX10_isLetter (fun X hX hE => ?_)
  by_cases h1 : c < 97
  · rw [if_neg (by unfold ltr; rw [decide_eq_true_iff]; omega)] at hE
    refine g_iload_n (i := 0) hX dX10_isLetter_0 rfl rfl ?_
    refine g_bipush hX dX10_isLetter_1 bp97 ?_
    refine g_icmp_lt (tgt := 16) hX dX10_isLetter_3 (by decide) (fun _ => ?_) (fun h9 => absurd ((lt_nI (c := 97) (by omega) (by decide)).mpr h1) h9)
    refine g_iconst hX dX10_isLetter_16 ic0 ?_
    refine g_zret (st := []) hX hE rfl (nz_narrow (Or.inl rfl)).1 dX10_isLetter_17 (⟨rfl, rfl⟩)
  · by_cases h2 : 122 < c
    · rw [if_neg (by unfold ltr; rw [decide_eq_true_iff]; omega)] at hE
      refine g_iload_n (i := 0) hX dX10_isLetter_0 rfl rfl ?_
      refine g_bipush hX dX10_isLetter_1 bp97 ?_
      refine g_icmp_lt (tgt := 16) hX dX10_isLetter_3 (by decide) (fun h9 => absurd h9 ((fun q => h1 ((lt_nI (c := 97) (by omega) (by decide)).mp q)))) (fun _ => ?_)
      refine g_iload_n (i := 0) hX dX10_isLetter_6 rfl rfl ?_
      refine g_bipush hX dX10_isLetter_7 bp122 ?_
      refine g_icmp_gt (tgt := 16) hX dX10_isLetter_9 (by decide) (fun _ => ?_) (fun h9 => absurd ((lt_nI (a := 122) (by decide) (by omega)).mpr h2) h9)
      refine g_iconst hX dX10_isLetter_16 ic0 ?_
      refine g_zret (st := []) hX hE rfl (nz_narrow (Or.inl rfl)).1 dX10_isLetter_17 (⟨rfl, rfl⟩)
    · rw [if_pos (by unfold ltr; rw [decide_eq_true_iff]; omega)] at hE
      refine g_iload_n (i := 0) hX dX10_isLetter_0 rfl rfl ?_
      refine g_bipush hX dX10_isLetter_1 bp97 ?_
      refine g_icmp_lt (tgt := 16) hX dX10_isLetter_3 (by decide) (fun h9 => absurd h9 ((fun q => h1 ((lt_nI (c := 97) (by omega) (by decide)).mp q)))) (fun _ => ?_)
      refine g_iload_n (i := 0) hX dX10_isLetter_6 rfl rfl ?_
      refine g_bipush hX dX10_isLetter_7 bp122 ?_
      refine g_icmp_gt (tgt := 16) hX dX10_isLetter_9 (by decide) (fun h9 => absurd h9 ((fun q => h2 ((lt_nI (a := 122) (by decide) (by omega)).mp q)))) (fun _ => ?_)
      refine g_iconst hX dX10_isLetter_12 ic1 ?_
      refine g_goto (tgt := 17) hX dX10_isLetter_13 (by decide) ?_
      refine g_zret (st := []) hX hE rfl (nz_narrow (Or.inr rfl)).1 dX10_isLetter_17 (⟨rfl, rfl⟩)
theorem c_isFigureR {Γ : GG} {S : St} {c : Nat} (hc : c < 256) : kX10_isFigure Γ [.int (nI c)] S (rI (if fgr c = true then 1 else 0) S) := by
  refine oX10_isFigure (fun X hX hE => ?_)
  by_cases h1 : c < 48
  · rw [if_neg (by unfold fgr; rw [decide_eq_true_iff]; omega)] at hE
    refine g_iload_n (i := 0) hX dX10_isFigure_0 rfl rfl ?_
    refine g_bipush hX dX10_isFigure_1 bp48 ?_
    refine g_icmp_lt (tgt := 16) hX dX10_isFigure_3 (by decide) (fun _ => ?_) (fun h9 => absurd ((lt_nI (c := 48) (by omega) (by decide)).mpr h1) h9)
    refine g_iconst hX dX10_isFigure_16 ic0 ?_
    refine g_zret (st := []) hX hE rfl (nz_narrow (Or.inl rfl)).1 dX10_isFigure_17 (⟨rfl, rfl⟩)
  · by_cases h2 : 57 < c
    · rw [if_neg (by unfold fgr; rw [decide_eq_true_iff]; omega)] at hE
      refine g_iload_n (i := 0) hX dX10_isFigure_0 rfl rfl ?_
      refine g_bipush hX dX10_isFigure_1 bp48 ?_
      refine g_icmp_lt (tgt := 16) hX dX10_isFigure_3 (by decide) (fun h9 => absurd h9 ((fun q => h1 ((lt_nI (c := 48) (by omega) (by decide)).mp q)))) (fun _ => ?_)
      refine g_iload_n (i := 0) hX dX10_isFigure_6 rfl rfl ?_
      refine g_bipush hX dX10_isFigure_7 bp57 ?_
      refine g_icmp_gt (tgt := 16) hX dX10_isFigure_9 (by decide) (fun _ => ?_) (fun h9 => absurd ((lt_nI (a := 57) (by decide) (by omega)).mpr h2) h9)
      refine g_iconst hX dX10_isFigure_16 ic0 ?_
      refine g_zret (st := []) hX hE rfl (nz_narrow (Or.inl rfl)).1 dX10_isFigure_17 (⟨rfl, rfl⟩)
    · rw [if_pos (by unfold fgr; rw [decide_eq_true_iff]; omega)] at hE
      refine g_iload_n (i := 0) hX dX10_isFigure_0 rfl rfl ?_
      refine g_bipush hX dX10_isFigure_1 bp48 ?_
      refine g_icmp_lt (tgt := 16) hX dX10_isFigure_3 (by decide) (fun h9 => absurd h9 ((fun q => h1 ((lt_nI (c := 48) (by omega) (by decide)).mp q)))) (fun _ => ?_)
      refine g_iload_n (i := 0) hX dX10_isFigure_6 rfl rfl ?_
      refine g_bipush hX dX10_isFigure_7 bp57 ?_
      refine g_icmp_gt (tgt := 16) hX dX10_isFigure_9 (by decide) (fun h9 => absurd h9 ((fun q => h2 ((lt_nI (a := 57) (by decide) (by omega)).mp q)))) (fun _ => ?_)
      refine g_iconst hX dX10_isFigure_12 ic1 ?_
      refine g_goto (tgt := 17) hX dX10_isFigure_13 (by decide) ?_
      refine g_zret (st := []) hX hE rfl (nz_narrow (Or.inr rfl)).1 dX10_isFigure_17 (⟨rfl, rfl⟩)
theorem c_isLetterN {Γ : GG} {S : St} : kX10_isLetter Γ [.int (-1000000)] S (rI 0 S) := by
  refine oX10_isLetter (fun X hX hE => ?_)
  refine g_iload_n (i := 0) hX dX10_isLetter_0 rfl rfl ?_
  refine g_bipush hX dX10_isLetter_1 bp97 ?_
  refine g_icmp_lt (tgt := 16) hX dX10_isLetter_3 (by decide) (fun _ => ?_) (fun h9 => absurd ((by decide)) h9)
  refine g_iconst hX dX10_isLetter_16 ic0 ?_
  refine g_zret (st := []) hX hE rfl (nz_narrow (Or.inl rfl)).1 dX10_isLetter_17 (⟨rfl, rfl⟩)
theorem c_isFigureN {Γ : GG} {S : St} : kX10_isFigure Γ [.int (-1000000)] S (rI 0 S) := by
  refine oX10_isFigure (fun X hX hE => ?_)
  refine g_iload_n (i := 0) hX dX10_isFigure_0 rfl rfl ?_
  refine g_bipush hX dX10_isFigure_1 bp48 ?_
  refine g_icmp_lt (tgt := 16) hX dX10_isFigure_3 (by decide) (fun _ => ?_) (fun h9 => absurd ((by decide)) h9)
  refine g_iconst hX dX10_isFigure_16 ic0 ?_
  refine g_zret (st := []) hX hE rfl (nz_narrow (Or.inl rfl)).1 dX10_isFigure_17 (⟨rfl, rfl⟩)
