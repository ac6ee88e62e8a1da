/-! the class's tokens -/
theorem min1 {a m : Nat} (ha : a < 2 ^ 31) (hm : m < 2 ^ 31) : (if nI m < nI a then nI m else nI a) = nI (min a m) := by
  by_cases h : m < a
  · rw [if_pos ((lt_nI hm ha).mpr h), Nat.min_eq_right (by omega)]
  · rw [if_neg (fun q => h ((lt_nI hm ha).mp q)), Nat.min_eq_left (by omega)]
/-- the number that figures tell, from f on -/
def valN (b : Nat → Nat) (f : Nat) : Nat → Nat
  | 0 => 0
  | k + 1 => min (10 * valN b f k + (b (f + k) - 48)) 9999
theorem valN_le {b : Nat → Nat} {f : Nat} : ∀ k, valN b f k ≤ 9999 := by
  intro k
  cases k with
  | zero => exact Nat.zero_le _
  | succ k => exact Nat.min_le_right _ _
theorem c_takeFigures {Γ : GG} {S : St} {n i0 : Nat} {b : Nat → Nat} (hb : BtC S n b) (hi : i0 ≤ n) (h3 : S.1 50 3 = nI i0) (h4 : S.1 50 4 = nI i0) : kX8_takeFigures Γ [.ref (Γ.1 50)] S (eV (fun S1 => S1.1 50 4 = nI (runE fgr b (n - i0) i0) ∧ S1.1 50 5 = nI (if runE fgr b (n - i0) i0 - i0 ≤ 4 then 2 else 4) ∧ S1.1 50 6 = nI (valN b i0 (runE fgr b (n - i0) i0 - i0)) ∧ Fq [] [(50, 4), (50, 5), (50, 6)] S S1)) := by
  refine oX8_takeFigures (fun X hX hE => ?_)
  have h400 := hb.1
  have hr := runE_ok (u := fgr) (b := b) (n - i0) i0
  have last : ∀ T, T.1 50 4 = nI (runE fgr b (n - i0) i0) → T.1 50 6 = nI (valN b i0 (runE fgr b (n - i0) i0 - i0)) → Fq [] [(50, 4), (50, 5), (50, 6)] S T → G Γ X T 74 [(0, .ref (Γ.1 50))] [] := by
    intro T h4 h6 hF
    have g3 : T.1 50 3 = nI i0 := by rw [(hF.s (k := 50) (j := 3) (by decide)).1]; exact h3
    have es : T.1 50 4 - T.1 50 3 = nI (runE fgr b (n - i0) i0 - i0) := by rw [h4, g3, nI_sub (by omega)]
    by_cases q : runE fgr b (n - i0) i0 - i0 ≤ 4
    · refine g_aload_n (i := 0) hX dX8_takeFigures_74 rfl rfl ?_
      refine g_aload_n (i := 0) hX dX8_takeFigures_75 rfl rfl ?_
      refine fX8_27 hX dX8_takeFigures_76 ?_
      refine g_aload_n (i := 0) hX dX8_takeFigures_79 rfl rfl ?_
      refine fX8_24 hX dX8_takeFigures_80 ?_
      refine g_isub hX dX8_takeFigures_83 ?_
      refine g_iconst hX dX8_takeFigures_84 ic4 ?_
      refine g_icmp_le (tgt := 92) hX dX8_takeFigures_85 (by decide) (fun _ => ?_) (fun h9 => absurd ((by rw [es]; exact nI_le (b := 4) q (by decide))) h9)
      refine g_iconst hX dX8_takeFigures_92 ic2 ?_
      refine pX8_30 hX dX8_takeFigures_93 ?_
      refine g_vret (st := []) hX hE rfl dX8_takeFigures_96 (⟨rfl, ?_, ?_, ?_, hF.I (by decide)⟩)
      · rw [pR_self, upd_ne _ _ (by decide)]; exact h4
      · rw [pR_self, upd_self, if_pos q]; rfl
      · rw [pR_self, upd_ne _ _ (by decide)]; exact h6
    · refine g_aload_n (i := 0) hX dX8_takeFigures_74 rfl rfl ?_
      refine g_aload_n (i := 0) hX dX8_takeFigures_75 rfl rfl ?_
      refine fX8_27 hX dX8_takeFigures_76 ?_
      refine g_aload_n (i := 0) hX dX8_takeFigures_79 rfl rfl ?_
      refine fX8_24 hX dX8_takeFigures_80 ?_
      refine g_isub hX dX8_takeFigures_83 ?_
      refine g_iconst hX dX8_takeFigures_84 ic4 ?_
      refine g_icmp_le (tgt := 92) hX dX8_takeFigures_85 (by decide) (fun h9 => absurd h9 ((by rw [es, i_le, nI_toInt (by omega), show (4 : Int32).toInt = 4 by decide]; omega))) (fun _ => ?_)
      refine g_iconst hX dX8_takeFigures_88 ic4 ?_
      refine g_goto (tgt := 93) hX dX8_takeFigures_89 (by decide) ?_
      refine pX8_30 hX dX8_takeFigures_93 ?_
      refine g_vret (st := []) hX hE rfl dX8_takeFigures_96 (⟨rfl, ?_, ?_, ?_, hF.I (by decide)⟩)
      · rw [pR_self, upd_ne _ _ (by decide)]; exact h4
      · rw [pR_self, upd_self, if_neg q]; rfl
      · rw [pR_self, upd_ne _ _ (by decide)]; exact h6
  have loop : ∀ d i T, i + d = n → i0 ≤ i → T.1 50 4 = nI i → T.1 50 6 = nI (valN b i0 (i - i0)) → runE fgr b d i = runE fgr b (n - i0) i0 → Fq [] [(50, 4), (50, 5), (50, 6)] S T → G Γ X T 5 [(0, .ref (Γ.1 50))] [] := by
    intro d
    induction d with
    | zero =>
      intro i T hid hi0 h4 h6 he hF
      obtain rfl : i = n := by omega
      have hbT := hb.q hF (by decide)
      rw [runE] at he
      refine g_aload_n (i := 0) hX dX8_takeFigures_5 rfl rfl ?_
      refine fX8_27 hX dX8_takeFigures_6 ?_
      refine g_aload_n (i := 0) hX dX8_takeFigures_9 rfl rfl ?_
      refine fX8_20 hX dX8_takeFigures_10 ?_
      refine g_icmp_ge (tgt := 74) hX dX8_takeFigures_13 (by decide) (fun _ => ?_) (fun h9 => absurd ((by rw [h4, hbT.2.1]; exact Int32.le_refl _)) h9)
      exact last T (by rw [h4, ← he]) (by rw [h6, ← he]) hF
    | succ d ih =>
      intro i T hid hi0 h4 h6 he hF
      have hbT := hb.q hF (by decide)
      obtain ⟨e1, e2⟩ := hbT.2.2 i (by omega)
      have hlt := c_isFigure (Γ := Γ) (S := T) e2
      have hv := valN_le (b := b) (f := i0) (i - i0)
      rw [runE] at he
      cases q : fgr (b i) with
      | true =>
        have q48 : 48 ≤ b i := by unfold fgr at q; rw [decide_eq_true_iff] at q; exact q.1
        rw [q, if_pos rfl] at hlt
        rw [q, if_pos rfl] at he
        have ev : (10 : Int32) * T.1 50 6 + T.1 51 i - 48 = nI (10 * valN b i0 (i - i0) + (b i - 48)) := by
          rw [h6, e1, show (10 : Int32) = nI 10 from rfl, nI_mul, nI_add2, show (48 : Int32) = nI 48 from rfl, nI_sub (by omega)]
          exact congrArg nI (by omega)
        refine g_aload_n (i := 0) hX dX8_takeFigures_5 rfl rfl ?_
        refine fX8_27 hX dX8_takeFigures_6 ?_
        refine g_aload_n (i := 0) hX dX8_takeFigures_9 rfl rfl ?_
        refine fX8_20 hX dX8_takeFigures_10 ?_
        refine g_icmp_ge (tgt := 74) hX dX8_takeFigures_13 (by decide) (fun h9 => absurd h9 ((by rw [h4, hbT.2.1]; exact nI_ge (by omega) (by omega)))) (fun _ => ?_)
        refine g_aload_n (i := 0) hX dX8_takeFigures_16 rfl rfl ?_
        refine fX8_9 hX dX8_takeFigures_17 ?_
        refine g_aload_n (i := 0) hX dX8_takeFigures_20 rfl rfl ?_
        refine fX8_27 hX dX8_takeFigures_21 ?_
        refine g_ialoadN hX (ia51) (h4) ((show i < 400 by omega)) (by first | decide | assumption | omega) dX8_takeFigures_24 ?_
        refine sX8_101 hX ⟨Nat.le_of_ble_eq_true rfl, Nat.le_of_ble_eq_true rfl⟩ (Nat.le_of_ble_eq_true rfl) dX8_takeFigures_25 ((by rw [e1]; exact hlt)) ?_
        refine g_if_eq (tgt := 74) hX dX8_takeFigures_28 (by decide) (fun h9 => absurd h9 ((by decide))) (fun _ => ?_)
        refine g_aload_n (i := 0) hX dX8_takeFigures_31 rfl rfl ?_
        refine g_bipush hX dX8_takeFigures_32 bp10 ?_
        refine g_aload_n (i := 0) hX dX8_takeFigures_34 rfl rfl ?_
        refine fX8_33 hX dX8_takeFigures_35 ?_
        refine g_imul hX dX8_takeFigures_38 ?_
        refine g_aload_n (i := 0) hX dX8_takeFigures_39 rfl rfl ?_
        refine fX8_9 hX dX8_takeFigures_40 ?_
        refine g_aload_n (i := 0) hX dX8_takeFigures_43 rfl rfl ?_
        refine fX8_27 hX dX8_takeFigures_44 ?_
        refine g_ialoadN hX (ia51) (h4) ((show i < 400 by omega)) (by first | decide | assumption | omega) dX8_takeFigures_47 ?_
        refine g_iadd hX dX8_takeFigures_48 ?_
        refine g_bipush hX dX8_takeFigures_49 bp48 ?_
        refine g_isub hX dX8_takeFigures_51 ?_
        rw [ev]
        refine g_sipush hX dX8_takeFigures_52 sp9999 ?_
        refine sX8_107 hX (Nat.le_of_ble_eq_true rfl) (Nat.le_of_ble_eq_true rfl) dX8_takeFigures_55 ?_
        have em : (if (9999 : Int32) < nI (10 * valN b i0 (i - i0) + (b i - 48)) then (9999 : Int32) else nI (10 * valN b i0 (i - i0) + (b i - 48))) = nI (valN b i0 (i + 1 - i0)) := by
          rw [show i + 1 - i0 = (i - i0) + 1 by omega, valN, show i0 + (i - i0) = i by omega]
          exact min1 (m := 9999) (by omega) (by decide)
        rw [em]
        refine pX8_33 hX dX8_takeFigures_58 ?_
        refine g_aload_n (i := 0) hX dX8_takeFigures_61 rfl rfl ?_
        refine g_dup hX dX8_takeFigures_62 rfl ?_
        refine fX8_27 hX dX8_takeFigures_63 ?_
        refine g_iconst hX dX8_takeFigures_66 ic1 ?_
        refine g_iadd hX dX8_takeFigures_67 ?_
        refine pX8_27 hX dX8_takeFigures_68 ?_
        refine g_goto (tgt := 5) hX dX8_takeFigures_71 (by decide) ?_
        have g4 : (pI T 50 6 (nI (valN b i0 (i + 1 - i0)))).1 50 4 = nI i := by rw [pR_self, upd_ne _ _ (by decide)]; exact h4
        rw [g4, nI_1]
        exact ih (i + 1) _ (by omega) (by omega) (by rw [pR_self, upd_self]) (by rw [pR_self, upd_ne _ _ (by decide), pR_self, upd_self]) he ((hF.I (by decide)).I (by decide))
      | false =>
        rw [q, if_neg (by decide)] at hlt
        rw [q, if_neg (by decide)] at he
        refine g_aload_n (i := 0) hX dX8_takeFigures_5 rfl rfl ?_
        refine fX8_27 hX dX8_takeFigures_6 ?_
        refine g_aload_n (i := 0) hX dX8_takeFigures_9 rfl rfl ?_
        refine fX8_20 hX dX8_takeFigures_10 ?_
        refine g_icmp_ge (tgt := 74) hX dX8_takeFigures_13 (by decide) (fun h9 => absurd h9 ((by rw [h4, hbT.2.1]; exact nI_ge (by omega) (by omega)))) (fun _ => ?_)
        refine g_aload_n (i := 0) hX dX8_takeFigures_16 rfl rfl ?_
        refine fX8_9 hX dX8_takeFigures_17 ?_
        refine g_aload_n (i := 0) hX dX8_takeFigures_20 rfl rfl ?_
        refine fX8_27 hX dX8_takeFigures_21 ?_
        refine g_ialoadN hX (ia51) (h4) ((show i < 400 by omega)) (by first | decide | assumption | omega) dX8_takeFigures_24 ?_
        refine sX8_101 hX ⟨Nat.le_of_ble_eq_true rfl, Nat.le_of_ble_eq_true rfl⟩ (Nat.le_of_ble_eq_true rfl) dX8_takeFigures_25 ((by rw [e1]; exact hlt)) ?_
        refine g_if_eq (tgt := 74) hX dX8_takeFigures_28 (by decide) (fun _ => ?_) (fun h9 => absurd (rfl) h9)
        exact last T (by rw [h4, ← he]) (by rw [h6, ← he]) hF
  refine g_aload_n (i := 0) hX dX8_takeFigures_0 rfl rfl ?_
  refine g_iconst hX dX8_takeFigures_1 ic0 ?_
  refine pX8_33 hX dX8_takeFigures_2 ?_
  exact loop (n - i0) i0 _ (by omega) (Nat.le_refl _) (by rw [pR_self, upd_ne _ _ (by decide)]; exact h4) (by rw [pR_self, upd_self, Nat.sub_self]; rfl) rfl (Fq.rf.I (by decide))
def spc (c : Nat) : Bool := decide (c = 32 ∨ c = 10)
/-- a token: where it begins behind i, where it ends, what it is (0 the end, 1 a word, 2 a number, 3 the sign, 4 none) -/
def tkG (b : Nat → Nat) (n i : Nat) : Nat := runE spc b (n - i) i
def tkE (b : Nat → Nat) (n g : Nat) : Nat := if n ≤ g then g else if ltr (b g) = true then runE ltr b (n - g) g else if fgr (b g) = true then runE fgr b (n - g) g else g + 1
def tkK (b : Nat → Nat) (n g : Nat) : Nat := if n ≤ g then 0 else if ltr (b g) = true then 1 else if fgr (b g) = true then (if tkE b n g - g ≤ 4 then 2 else 4) else if b g = 59 then 3 else 4
