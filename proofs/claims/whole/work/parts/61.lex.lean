/-! promise 12: a telling's tokens; the class's -/
def ltr (c : Nat) : Bool := decide (97 ≤ c ∧ c ≤ 122)
def fgr (c : Nat) : Bool := decide (48 ≤ c ∧ c ≤ 57)
/-- how far bytes of a kind go on -/
def runE (u : Nat → Bool) (b : Nat → Nat) : Nat → Nat → Nat
  | 0, i => i
  | d + 1, i => if u (b i) = true then runE u b d (i + 1) else i
theorem runE_ok {u : Nat → Bool} {b : Nat → Nat} : ∀ d i, i ≤ runE u b d i ∧ runE u b d i ≤ i + d := by
  intro d
  induction d with
  | zero => intro i; rw [runE]; omega
  | succ d ih =>
    intro i
    rw [runE]
    have := ih (i + 1)
    split <;> omega
theorem lt_nI {a c : Nat} (ha : a < 2 ^ 31) (hc : c < 2 ^ 31) : nI a < nI c ↔ a < c := by
  rw [i_lt, nI_toInt ha, nI_toInt hc]; omega
theorem c_isLetter {Γ : GG} {S : St} {c : Nat} (hc : c < 256) : kX8_isLetter Γ [.int (nI c)] S (rI (if ltr c = true then 1 else 0) S) := by
  refine oX8_isLetter (fun X hX hE => ?_)
  by_cases h1 : c < 97
  · rw [if_neg (by unfold ltr; rw [decide_eq_true_iff]; omega)] at hE
    refine g_iload_n (i := 0) hX dX8_isLetter_0 rfl rfl ?_
    refine g_bipush hX dX8_isLetter_1 bp97 ?_
    refine g_icmp_lt (tgt := 16) hX dX8_isLetter_3 (by decide) (fun _ => ?_) (fun h9 => absurd ((lt_nI (c := 97) (by omega) (by decide)).mpr h1) h9)
    refine g_iconst hX dX8_isLetter_16 ic0 ?_
    refine g_zret (st := []) hX hE rfl (nz_narrow (Or.inl rfl)).1 dX8_isLetter_17 (⟨rfl, rfl⟩)
  · by_cases h2 : 122 < c
    · rw [if_neg (by unfold ltr; rw [decide_eq_true_iff]; omega)] at hE
      refine g_iload_n (i := 0) hX dX8_isLetter_0 rfl rfl ?_
      refine g_bipush hX dX8_isLetter_1 bp97 ?_
      refine g_icmp_lt (tgt := 16) hX dX8_isLetter_3 (by decide) (fun h9 => absurd h9 ((fun q => h1 ((lt_nI (c := 97) (by omega) (by decide)).mp q)))) (fun _ => ?_)
      refine g_iload_n (i := 0) hX dX8_isLetter_6 rfl rfl ?_
      refine g_bipush hX dX8_isLetter_7 bp122 ?_
      refine g_icmp_gt (tgt := 16) hX dX8_isLetter_9 (by decide) (fun _ => ?_) (fun h9 => absurd ((lt_nI (a := 122) (by decide) (by omega)).mpr h2) h9)
      refine g_iconst hX dX8_isLetter_16 ic0 ?_
      refine g_zret (st := []) hX hE rfl (nz_narrow (Or.inl rfl)).1 dX8_isLetter_17 (⟨rfl, rfl⟩)
    · rw [if_pos (by unfold ltr; rw [decide_eq_true_iff]; omega)] at hE
      refine g_iload_n (i := 0) hX dX8_isLetter_0 rfl rfl ?_
      refine g_bipush hX dX8_isLetter_1 bp97 ?_
      refine g_icmp_lt (tgt := 16) hX dX8_isLetter_3 (by decide) (fun h9 => absurd h9 ((fun q => h1 ((lt_nI (c := 97) (by omega) (by decide)).mp q)))) (fun _ => ?_)
      refine g_iload_n (i := 0) hX dX8_isLetter_6 rfl rfl ?_
      refine g_bipush hX dX8_isLetter_7 bp122 ?_
      refine g_icmp_gt (tgt := 16) hX dX8_isLetter_9 (by decide) (fun h9 => absurd h9 ((fun q => h2 ((lt_nI (a := 122) (by decide) (by omega)).mp q)))) (fun _ => ?_)
      refine g_iconst hX dX8_isLetter_12 ic1 ?_
      refine g_goto (tgt := 17) hX dX8_isLetter_13 (by decide) ?_
      refine g_zret (st := []) hX hE rfl (nz_narrow (Or.inr rfl)).1 dX8_isLetter_17 (⟨rfl, rfl⟩)
theorem c_isFigure {Γ : GG} {S : St} {c : Nat} (hc : c < 256) : kX8_isFigure Γ [.int (nI c)] S (rI (if fgr c = true then 1 else 0) S) := by
  refine oX8_isFigure (fun X hX hE => ?_)
  by_cases h1 : c < 48
  · rw [if_neg (by unfold fgr; rw [decide_eq_true_iff]; omega)] at hE
    refine g_iload_n (i := 0) hX dX8_isFigure_0 rfl rfl ?_
    refine g_bipush hX dX8_isFigure_1 bp48 ?_
    refine g_icmp_lt (tgt := 16) hX dX8_isFigure_3 (by decide) (fun _ => ?_) (fun h9 => absurd ((lt_nI (c := 48) (by omega) (by decide)).mpr h1) h9)
    refine g_iconst hX dX8_isFigure_16 ic0 ?_
    refine g_zret (st := []) hX hE rfl (nz_narrow (Or.inl rfl)).1 dX8_isFigure_17 (⟨rfl, rfl⟩)
  · by_cases h2 : 57 < c
    · rw [if_neg (by unfold fgr; rw [decide_eq_true_iff]; omega)] at hE
      refine g_iload_n (i := 0) hX dX8_isFigure_0 rfl rfl ?_
      refine g_bipush hX dX8_isFigure_1 bp48 ?_
      refine g_icmp_lt (tgt := 16) hX dX8_isFigure_3 (by decide) (fun h9 => absurd h9 ((fun q => h1 ((lt_nI (c := 48) (by omega) (by decide)).mp q)))) (fun _ => ?_)
      refine g_iload_n (i := 0) hX dX8_isFigure_6 rfl rfl ?_
      refine g_bipush hX dX8_isFigure_7 bp57 ?_
      refine g_icmp_gt (tgt := 16) hX dX8_isFigure_9 (by decide) (fun _ => ?_) (fun h9 => absurd ((lt_nI (a := 57) (by decide) (by omega)).mpr h2) h9)
      refine g_iconst hX dX8_isFigure_16 ic0 ?_
      refine g_zret (st := []) hX hE rfl (nz_narrow (Or.inl rfl)).1 dX8_isFigure_17 (⟨rfl, rfl⟩)
    · rw [if_pos (by unfold fgr; rw [decide_eq_true_iff]; omega)] at hE
      refine g_iload_n (i := 0) hX dX8_isFigure_0 rfl rfl ?_
      refine g_bipush hX dX8_isFigure_1 bp48 ?_
      refine g_icmp_lt (tgt := 16) hX dX8_isFigure_3 (by decide) (fun h9 => absurd h9 ((fun q => h1 ((lt_nI (c := 48) (by omega) (by decide)).mp q)))) (fun _ => ?_)
      refine g_iload_n (i := 0) hX dX8_isFigure_6 rfl rfl ?_
      refine g_bipush hX dX8_isFigure_7 bp57 ?_
      refine g_icmp_gt (tgt := 16) hX dX8_isFigure_9 (by decide) (fun h9 => absurd h9 ((fun q => h2 ((lt_nI (a := 57) (by decide) (by omega)).mp q)))) (fun _ => ?_)
      refine g_iconst hX dX8_isFigure_12 ic1 ?_
      refine g_goto (tgt := 17) hX dX8_isFigure_13 (by decide) ?_
      refine g_zret (st := []) hX hE rfl (nz_narrow (Or.inr rfl)).1 dX8_isFigure_17 (⟨rfl, rfl⟩)
/-- the tape's bytes, the class's -/
def BtC (S : St) (n : Nat) (b : Nat → Nat) : Prop := n ≤ 400 ∧ S.1 50 2 = nI n ∧ ∀ j, j < n → S.1 51 j = nI (b j) ∧ b j < 256
theorem BtC.q {K : List Nat} {O : List (Nat × Nat)} {S S1 : St} {n : Nat} {b : Nat → Nat} (h : BtC S n b) (hF : Fq K O S S1) (c : (okS K O 50 2 && okR K O 51) = true) : BtC S1 n b := by
  simp only [Bool.and_eq_true] at c
  exact ⟨h.1, by rw [(hF.s c.1).1]; exact h.2.1, by rw [hF.r c.2]; exact h.2.2⟩
theorem c_takeWord {Γ : GG} {S : St} {n i0 : Nat} {b : Nat → Nat} (hb : BtC S n b) (hi : i0 ≤ n) (h4 : S.1 50 4 = nI i0) : kX8_takeWord Γ [.ref (Γ.1 50)] S (eV (fun S1 => S1.1 50 4 = nI (runE ltr b (n - i0) i0) ∧ S1.1 50 5 = 1 ∧ Fq [] [(50, 4), (50, 5)] S S1)) := by
  refine oX8_takeWord (fun X hX hE => ?_)
  have h400 := hb.1
  have loop : ∀ d i T, i + d = n → T.1 50 4 = nI i → runE ltr b d i = runE ltr b (n - i0) i0 → Fq [] [(50, 4), (50, 5)] S T → G Γ X T 0 [(0, .ref (Γ.1 50))] [] := by
    intro d
    induction d with
    | zero =>
      intro i T hid h4 he hF
      obtain rfl : i = n := by omega
      have hbT := hb.q hF (by decide)
      refine g_aload_n (i := 0) hX dX8_takeWord_0 rfl rfl ?_
      refine fX8_27 hX dX8_takeWord_1 ?_
      refine g_aload_n (i := 0) hX dX8_takeWord_4 rfl rfl ?_
      refine fX8_20 hX dX8_takeWord_5 ?_
      refine g_icmp_ge (tgt := 39) hX dX8_takeWord_8 (by decide) (fun _ => ?_) (fun h9 => absurd ((by rw [h4, hbT.2.1]; exact Int32.le_refl _)) h9)
      refine g_aload_n (i := 0) hX dX8_takeWord_39 rfl rfl ?_
      refine g_iconst hX dX8_takeWord_40 ic1 ?_
      refine pX8_30 hX dX8_takeWord_41 ?_
      refine g_vret (st := []) hX hE rfl dX8_takeWord_44 (⟨rfl, ?_, ?_, hF.I (by decide)⟩)
      · rw [pR_self, upd_ne _ _ (by decide), h4, ← he]; rfl
      · rw [pR_self, upd_self]
    | succ d ih =>
      intro i T hid h4 he hF
      have hbT := hb.q hF (by decide)
      obtain ⟨e1, e2⟩ := hbT.2.2 i (by omega)
      have hlt := c_isLetter (Γ := Γ) (S := T) e2
      rw [runE] at he
      cases q : ltr (b i) with
      | true =>
        rw [q, if_pos rfl] at hlt
        rw [q, if_pos rfl] at he
        refine g_aload_n (i := 0) hX dX8_takeWord_0 rfl rfl ?_
        refine fX8_27 hX dX8_takeWord_1 ?_
        refine g_aload_n (i := 0) hX dX8_takeWord_4 rfl rfl ?_
        refine fX8_20 hX dX8_takeWord_5 ?_
        refine g_icmp_ge (tgt := 39) hX dX8_takeWord_8 (by decide) (fun h9 => absurd h9 ((by rw [h4, hbT.2.1]; exact nI_ge (by omega) (by omega)))) (fun _ => ?_)
        refine g_aload_n (i := 0) hX dX8_takeWord_11 rfl rfl ?_
        refine fX8_9 hX dX8_takeWord_12 ?_
        refine g_aload_n (i := 0) hX dX8_takeWord_15 rfl rfl ?_
        refine fX8_27 hX dX8_takeWord_16 ?_
        refine g_ialoadN hX (ia51) (h4) ((show i < 400 by omega)) (by first | decide | assumption | omega) dX8_takeWord_19 ?_
        refine sX8_94 hX ⟨Nat.le_of_ble_eq_true rfl, Nat.le_of_ble_eq_true rfl⟩ (Nat.le_of_ble_eq_true rfl) dX8_takeWord_20 ((by rw [e1]; exact hlt)) ?_
        refine g_if_eq (tgt := 39) hX dX8_takeWord_23 (by decide) (fun h9 => absurd h9 ((by decide))) (fun _ => ?_)
        refine g_aload_n (i := 0) hX dX8_takeWord_26 rfl rfl ?_
        refine g_dup hX dX8_takeWord_27 rfl ?_
        refine fX8_27 hX dX8_takeWord_28 ?_
        refine g_iconst hX dX8_takeWord_31 ic1 ?_
        refine g_iadd hX dX8_takeWord_32 ?_
        refine pX8_27 hX dX8_takeWord_33 ?_
        refine g_goto (tgt := 0) hX dX8_takeWord_36 (by decide) ?_
        rw [h4, nI_1]
        exact ih (i + 1) _ (by omega) (by rw [pR_self, upd_self]) he (hF.I (by decide))
      | false =>
        rw [q, if_neg (by decide)] at hlt
        rw [q, if_neg (by decide)] at he
        refine g_aload_n (i := 0) hX dX8_takeWord_0 rfl rfl ?_
        refine fX8_27 hX dX8_takeWord_1 ?_
        refine g_aload_n (i := 0) hX dX8_takeWord_4 rfl rfl ?_
        refine fX8_20 hX dX8_takeWord_5 ?_
        refine g_icmp_ge (tgt := 39) hX dX8_takeWord_8 (by decide) (fun h9 => absurd h9 ((by rw [h4, hbT.2.1]; exact nI_ge (by omega) (by omega)))) (fun _ => ?_)
        refine g_aload_n (i := 0) hX dX8_takeWord_11 rfl rfl ?_
        refine fX8_9 hX dX8_takeWord_12 ?_
        refine g_aload_n (i := 0) hX dX8_takeWord_15 rfl rfl ?_
        refine fX8_27 hX dX8_takeWord_16 ?_
        refine g_ialoadN hX (ia51) (h4) ((show i < 400 by omega)) (by first | decide | assumption | omega) dX8_takeWord_19 ?_
        refine sX8_94 hX ⟨Nat.le_of_ble_eq_true rfl, Nat.le_of_ble_eq_true rfl⟩ (Nat.le_of_ble_eq_true rfl) dX8_takeWord_20 ((by rw [e1]; exact hlt)) ?_
        refine g_if_eq (tgt := 39) hX dX8_takeWord_23 (by decide) (fun _ => ?_) (fun h9 => absurd (rfl) h9)
        refine g_aload_n (i := 0) hX dX8_takeWord_39 rfl rfl ?_
        refine g_iconst hX dX8_takeWord_40 ic1 ?_
        refine pX8_30 hX dX8_takeWord_41 ?_
        refine g_vret (st := []) hX hE rfl dX8_takeWord_44 (⟨rfl, ?_, ?_, hF.I (by decide)⟩)
        · rw [pR_self, upd_ne _ _ (by decide), h4, ← he]
        · rw [pR_self, upd_self]
  exact loop (n - i0) i0 S (by omega) h4 rfl Fq.rf
