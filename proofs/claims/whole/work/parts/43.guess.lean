/-! promise 24: guess -/
def gcdF : Nat → Nat → Nat → Option Nat
  | 0, _, _ => none
  | f + 1, a, b => if b = 0 then some a else gcdF f b (a % b)
def guA (r n : Nat) : Nat := 2 * (2 * r + 1) ^ n - (2 * r) ^ n
def guB (r n : Nat) : Nat := 2 * (2 * r + 1) ^ n
def guG (r n : Nat) : Nat := (gcdF 64 (guA r n) (guB r n)).getD 0
theorem gu_ok : ∀ r, r < 5 → ∀ n, n < 4 → gcdF 64 (guA r n) (guB r n) = some (guG r n) ∧ 0 < guG r n ∧ guG r n < 2000 ∧ guA r n < 2000 ∧ guB r n < 2000 ∧ (2 * r) ^ n ≤ 2 * (2 * r + 1) ^ n := by decide +kernel
theorem c_commonDivisor {Γ : GG} {S : St} {a0 b0 g : Nat} (ha : a0 < 2000) (hb : b0 < 2000) (hg : gcdF 64 a0 b0 = some g) (h0 : 0 < g) (hg2 : g < 2000) : kX9_commonDivisor Γ [.int (nI a0), .int (nI b0)] S (rI (nI g) S) := by
  refine oX9_commonDivisor (fun X hX hE => ?_)
  have loop : ∀ f a b i, i + f = 64 → a < 2000 → b < 2000 → gcdF f a b = some g → G Γ X S 7 [(0, .int (nI a0)), (1, .int (nI b0)), (2, .int (nI a)), (3, .int (nI b)), (4, .int (nI i))] [] := by
    intro f
    induction f with
    | zero => intro a b i _ _ _ h; cases h
    | succ f ih =>
      intro a b i hi ha hb h
      rw [gcdF] at h
      by_cases e : b = 0
      · rw [if_pos e] at h
        cases h
        subst e
        refine g_iload hX dX9_commonDivisor_7 rfl ?_
        refine g_bipush hX dX9_commonDivisor_9 bp64 ?_
        refine g_icmp_ge (tgt := 34) hX dX9_commonDivisor_11 (by decide) (fun h9 => absurd h9 (nI_ge (show i < 64 by omega) (by decide))) (fun _ => ?_)
        refine g_iload_n (i := 3) hX dX9_commonDivisor_14 rfl rfl ?_
        refine g_if_eq (tgt := 34) hX dX9_commonDivisor_15 (by decide) (fun _ => ?_) (fun h9 => absurd (rfl) h9)
        refine g_iload_n (i := 2) hX dX9_commonDivisor_34 rfl rfl ?_
        refine g_if_ne (tgt := 42) hX dX9_commonDivisor_35 (by decide) (fun _ => ?_) (fun h9 => absurd h9 (nI_ne0 h0 (by omega)))
        refine g_iload_n (i := 2) hX dX9_commonDivisor_42 rfl rfl ?_
        refine g_iret (st := []) hX hE rfl dX9_commonDivisor_43 (⟨rfl, rfl⟩)
      · rw [if_neg e] at h
        have hm : a % b < b := Nat.mod_lt _ (by omega)
        refine g_iload hX dX9_commonDivisor_7 rfl ?_
        refine g_bipush hX dX9_commonDivisor_9 bp64 ?_
        refine g_icmp_ge (tgt := 34) hX dX9_commonDivisor_11 (by decide) (fun h9 => absurd h9 (nI_ge (show i < 64 by omega) (by decide))) (fun _ => ?_)
        refine g_iload_n (i := 3) hX dX9_commonDivisor_14 rfl rfl ?_
        refine g_if_eq (tgt := 34) hX dX9_commonDivisor_15 (by decide) (fun h9 => absurd h9 (nI_ne0 (by omega) (by omega))) (fun _ => ?_)
        refine g_iload_n (i := 2) hX dX9_commonDivisor_18 rfl rfl ?_
        refine g_iload_n (i := 3) hX dX9_commonDivisor_19 rfl rfl ?_
        refine g_irem hX dX9_commonDivisor_20 (nI_ne0 (by omega) (by omega)) ?_
        refine g_istore hX dX9_commonDivisor_21 (by decide) rfl ?_
        refine g_iload_n (i := 3) hX dX9_commonDivisor_23 rfl rfl ?_
        refine g_istore_n (i := 2) hX dX9_commonDivisor_24 rfl (by decide) rfl ?_
        refine g_iload hX dX9_commonDivisor_25 rfl ?_
        refine g_istore_n (i := 3) hX dX9_commonDivisor_27 rfl (by decide) rfl ?_
        refine g_iinc hX dX9_commonDivisor_28 rfl ic1 (by decide) rfl ?_
        refine g_goto (tgt := 7) hX dX9_commonDivisor_31 (by decide) ?_
        rw [nI_1, jrem_nI (by omega) (by omega) (by omega)]
        exact g_weak (ih b (a % b) (i + 1) (by omega) hb (by omega) h) (as_c rfl (as_c rfl (as_c rfl (as_c rfl (as_c rfl (as_n))))))
  refine g_iload_n (i := 0) hX dX9_commonDivisor_0 rfl rfl ?_
  refine g_istore_n (i := 2) hX dX9_commonDivisor_1 rfl (by decide) rfl ?_
  refine g_iload_n (i := 1) hX dX9_commonDivisor_2 rfl rfl ?_
  refine g_istore_n (i := 3) hX dX9_commonDivisor_3 rfl (by decide) rfl ?_
  refine g_iconst hX dX9_commonDivisor_4 ic0 ?_
  refine g_istore hX dX9_commonDivisor_5 (by decide) rfl ?_
  exact loop 64 a0 b0 0 (by omega) ha hb hg
theorem step_guess {Γ : GG} (x1 x2 x3 : Int32) : Step (fun S P => kX9_guess Γ [.ref (Γ.1 48), .int x1, .int x2, .int x3] S P) (fun S P => kX10_guess Γ [.ref (Γ.1 67), .int x1, .int x2, .int x3] S P) := by
  intro S hR
  have l1 : (1 : Int64).toInt = 1 := by decide
  have l3 : (3 : Int64).toInt = 3 := by decide
  have l4 : (4 : Int64).toInt = 4 := by decide
  have t3 : (3 : Int32).toInt = 3 := by decide
  by_cases h1 : inB x1 5
  case neg =>
    refine ⟨-1000001, fun S1 => S1 = S, ?_, ?_⟩
    · refine oX9_guess (fun X hX hE => ?_)
      refine g_iload_n (i := 1) hX dX9_guess_0 rfl rfl ?_
      refine g_iconst hX dX9_guess_1 ic5 ?_
      refine sX9_96 hX ⟨Nat.le_of_ble_eq_true rfl, Nat.le_of_ble_eq_true rfl⟩ (Nat.le_of_ble_eq_true rfl) dX9_guess_2 (isB_f (n := 5) (by decide) h1) ?_
      refine g_if_eq (tgt := 26) hX dX9_guess_5 (by decide) (fun _ => ?_) (fun h9 => absurd (rfl) h9)
      refine g_ldc hX ccX9_100 dX9_guess_26 ?_
      refine g_iret (st := []) hX hE rfl dX9_guess_28 (⟨_, rfl, rfl, rfl⟩)
    · rintro S1 rfl
      refine oX10_guess (fun X hX hE => ?_)
      rw [inB_iff (by decide)] at h1
      refine g_aload_n (i := 0) hX dX10_guess_0 rfl rfl ?_
      refine g_iconst hX dX10_guess_1 ic0 ?_
      refine pX10_78 hX dX10_guess_2 ?_
      refine g_iload_n (i := 1) hX dX10_guess_5 rfl rfl ?_
      refine g_i2l hX dX10_guess_6 ?_
      refine g_lconst (v := 0) hX dX10_guess_7 (by decide) ?_
      refine g_ldc2_w hX ccX10_114 dX10_guess_8 ?_
      refine sX10_87 hX ⟨Nat.le_of_ble_eq_true rfl, Nat.le_of_ble_eq_true rfl⟩ (Nat.le_of_ble_eq_true rfl) dX10_guess_11 (c_inI_f (by rw [L0, l4]; omega)) ?_
      refine g_if_eq (tgt := 39) hX dX10_guess_14 (by decide) (fun _ => ?_) (fun h9 => absurd (rfl) h9)
      refine g_ldc hX ccX10_97 dX10_guess_39 ?_
      refine g_iret (st := []) hX hE rfl dX10_guess_41 (⟨_, rfl, rfl, hR.thrown⟩)
  obtain ⟨r, hr, rfl⟩ := h1
  have cR : ∀ T : St, kX10_in Γ [.long (nI r).toInt64, .long 0, .long 4] T (rI 1 T) := fun T => c_inI_t (by rw [nI_toInt (by omega), L0]; omega) (by rw [nI_toInt (by omega), l4]; omega)
  by_cases h2 : 1 ≤ x2.toInt ∧ x2.toInt ≤ 3
  case neg =>
    refine ⟨-1000001, fun S1 => S1 = S, ?_, ?_⟩
    · refine oX9_guess (fun X hX hE => ?_)
      by_cases q : x2 < 1
      · refine g_iload_n (i := 1) hX dX9_guess_0 rfl rfl ?_
        refine g_iconst hX dX9_guess_1 ic5 ?_
        refine sX9_96 hX ⟨Nat.le_of_ble_eq_true rfl, Nat.le_of_ble_eq_true rfl⟩ (Nat.le_of_ble_eq_true rfl) dX9_guess_2 (isB_t (n := 5) hr (by decide)) ?_
        refine g_if_eq (tgt := 26) hX dX9_guess_5 (by decide) (fun h9 => absurd h9 ((by decide))) (fun _ => ?_)
        refine g_iload_n (i := 2) hX dX9_guess_8 rfl rfl ?_
        refine g_iconst hX dX9_guess_9 ic1 ?_
        refine g_icmp_lt (tgt := 26) hX dX9_guess_10 (by decide) (fun _ => ?_) (fun h9 => absurd (q) h9)
        refine g_ldc hX ccX9_100 dX9_guess_26 ?_
        refine g_iret (st := []) hX hE rfl dX9_guess_28 (⟨_, rfl, rfl, rfl⟩)
      · refine g_iload_n (i := 1) hX dX9_guess_0 rfl rfl ?_
        refine g_iconst hX dX9_guess_1 ic5 ?_
        refine sX9_96 hX ⟨Nat.le_of_ble_eq_true rfl, Nat.le_of_ble_eq_true rfl⟩ (Nat.le_of_ble_eq_true rfl) dX9_guess_2 (isB_t (n := 5) hr (by decide)) ?_
        refine g_if_eq (tgt := 26) hX dX9_guess_5 (by decide) (fun h9 => absurd h9 ((by decide))) (fun _ => ?_)
        refine g_iload_n (i := 2) hX dX9_guess_8 rfl rfl ?_
        refine g_iconst hX dX9_guess_9 ic1 ?_
        refine g_icmp_lt (tgt := 26) hX dX9_guess_10 (by decide) (fun h9 => absurd h9 (q)) (fun _ => ?_)
        refine g_iload_n (i := 2) hX dX9_guess_13 rfl rfl ?_
        refine g_iconst hX dX9_guess_14 ic3 ?_
        refine g_icmp_gt (tgt := 26) hX dX9_guess_15 (by decide) (fun _ => ?_) (fun h9 => absurd ((by rw [i_lt, t1] at q; rw [i_lt, t3]; omega)) h9)
        refine g_ldc hX ccX9_100 dX9_guess_26 ?_
        refine g_iret (st := []) hX hE rfl dX9_guess_28 (⟨_, rfl, rfl, rfl⟩)
    · rintro S1 rfl
      refine oX10_guess (fun X hX hE => ?_)
      refine g_aload_n (i := 0) hX dX10_guess_0 rfl rfl ?_
      refine g_iconst hX dX10_guess_1 ic0 ?_
      refine pX10_78 hX dX10_guess_2 ?_
      refine g_iload_n (i := 1) hX dX10_guess_5 rfl rfl ?_
      refine g_i2l hX dX10_guess_6 ?_
      refine g_lconst (v := 0) hX dX10_guess_7 (by decide) ?_
      refine g_ldc2_w hX ccX10_114 dX10_guess_8 ?_
      refine sX10_87 hX ⟨Nat.le_of_ble_eq_true rfl, Nat.le_of_ble_eq_true rfl⟩ (Nat.le_of_ble_eq_true rfl) dX10_guess_11 (cR _) ?_
      refine g_if_eq (tgt := 39) hX dX10_guess_14 (by decide) (fun h9 => absurd h9 ((by decide))) (fun _ => ?_)
      refine g_iload_n (i := 2) hX dX10_guess_17 rfl rfl ?_
      refine g_i2l hX dX10_guess_18 ?_
      refine g_lconst (v := 1) hX dX10_guess_19 (by decide) ?_
      refine g_ldc2_w hX ccX10_128 dX10_guess_20 ?_
      refine sX10_87 hX ⟨Nat.le_of_ble_eq_true rfl, Nat.le_of_ble_eq_true rfl⟩ (Nat.le_of_ble_eq_true rfl) dX10_guess_23 (c_inI_f (by rw [l1, l3]; exact h2)) ?_
      refine g_if_eq (tgt := 39) hX dX10_guess_26 (by decide) (fun _ => ?_) (fun h9 => absurd (rfl) h9)
      refine g_ldc hX ccX10_97 dX10_guess_39 ?_
      refine g_iret (st := []) hX hE rfl dX10_guess_41 (⟨_, rfl, rfl, hR.thrown⟩)
  obtain ⟨n, hn1, hn3, rfl⟩ : ∃ n, 1 ≤ n ∧ n ≤ 3 ∧ x2 = nI n := ⟨x2.toInt.toNat, by omega, by omega, nI_nat (by omega)⟩
  clear h2
  have hn1' : ¬ nI n < 1 := by rw [i_lt, t1, nI_toInt (by omega)]; omega
  have hn3' : ¬ 3 < nI n := by rw [i_lt, t3, nI_toInt (by omega)]; omega
  have cN : ∀ T : St, kX10_in Γ [.long (nI n).toInt64, .long 1, .long 3] T (rI 1 T) := fun T => c_inI_t (by rw [nI_toInt (by omega), l1]; omega) (by rw [nI_toInt (by omega), l3]; omega)
  by_cases h3 : inB x3 2
  case neg =>
    refine ⟨-1000001, fun S1 => S1 = S, ?_, ?_⟩
    · refine oX9_guess (fun X hX hE => ?_)
      refine g_iload_n (i := 1) hX dX9_guess_0 rfl rfl ?_
      refine g_iconst hX dX9_guess_1 ic5 ?_
      refine sX9_96 hX ⟨Nat.le_of_ble_eq_true rfl, Nat.le_of_ble_eq_true rfl⟩ (Nat.le_of_ble_eq_true rfl) dX9_guess_2 (isB_t (n := 5) hr (by decide)) ?_
      refine g_if_eq (tgt := 26) hX dX9_guess_5 (by decide) (fun h9 => absurd h9 ((by decide))) (fun _ => ?_)
      refine g_iload_n (i := 2) hX dX9_guess_8 rfl rfl ?_
      refine g_iconst hX dX9_guess_9 ic1 ?_
      refine g_icmp_lt (tgt := 26) hX dX9_guess_10 (by decide) (fun h9 => absurd h9 (hn1')) (fun _ => ?_)
      refine g_iload_n (i := 2) hX dX9_guess_13 rfl rfl ?_
      refine g_iconst hX dX9_guess_14 ic3 ?_
      refine g_icmp_gt (tgt := 26) hX dX9_guess_15 (by decide) (fun h9 => absurd h9 (hn3')) (fun _ => ?_)
      refine g_iload_n (i := 3) hX dX9_guess_18 rfl rfl ?_
      refine g_iconst hX dX9_guess_19 ic2 ?_
      refine sX9_96 hX ⟨Nat.le_of_ble_eq_true rfl, Nat.le_of_ble_eq_true rfl⟩ (Nat.le_of_ble_eq_true rfl) dX9_guess_20 (isB_f (n := 2) (by decide) h3) ?_
      refine g_if_ne (tgt := 29) hX dX9_guess_23 (by decide) (fun h9 => absurd (rfl) h9) (fun _ => ?_)
      refine g_ldc hX ccX9_100 dX9_guess_26 ?_
      refine g_iret (st := []) hX hE rfl dX9_guess_28 (⟨_, rfl, rfl, rfl⟩)
    · rintro S1 rfl
      refine oX10_guess (fun X hX hE => ?_)
      rw [inB_iff (by decide)] at h3
      refine g_aload_n (i := 0) hX dX10_guess_0 rfl rfl ?_
      refine g_iconst hX dX10_guess_1 ic0 ?_
      refine pX10_78 hX dX10_guess_2 ?_
      refine g_iload_n (i := 1) hX dX10_guess_5 rfl rfl ?_
      refine g_i2l hX dX10_guess_6 ?_
      refine g_lconst (v := 0) hX dX10_guess_7 (by decide) ?_
      refine g_ldc2_w hX ccX10_114 dX10_guess_8 ?_
      refine sX10_87 hX ⟨Nat.le_of_ble_eq_true rfl, Nat.le_of_ble_eq_true rfl⟩ (Nat.le_of_ble_eq_true rfl) dX10_guess_11 (cR _) ?_
      refine g_if_eq (tgt := 39) hX dX10_guess_14 (by decide) (fun h9 => absurd h9 ((by decide))) (fun _ => ?_)
      refine g_iload_n (i := 2) hX dX10_guess_17 rfl rfl ?_
      refine g_i2l hX dX10_guess_18 ?_
      refine g_lconst (v := 1) hX dX10_guess_19 (by decide) ?_
      refine g_ldc2_w hX ccX10_128 dX10_guess_20 ?_
      refine sX10_87 hX ⟨Nat.le_of_ble_eq_true rfl, Nat.le_of_ble_eq_true rfl⟩ (Nat.le_of_ble_eq_true rfl) dX10_guess_23 (cN _) ?_
      refine g_if_eq (tgt := 39) hX dX10_guess_26 (by decide) (fun h9 => absurd h9 ((by decide))) (fun _ => ?_)
      refine g_iload_n (i := 3) hX dX10_guess_29 rfl rfl ?_
      refine g_i2l hX dX10_guess_30 ?_
      refine g_lconst (v := 0) hX dX10_guess_31 (by decide) ?_
      refine g_lconst (v := 1) hX dX10_guess_32 (by decide) ?_
      refine sX10_87 hX ⟨Nat.le_of_ble_eq_true rfl, Nat.le_of_ble_eq_true rfl⟩ (Nat.le_of_ble_eq_true rfl) dX10_guess_33 (c_inI_f (by rw [L0, l1]; omega)) ?_
      refine g_if_ne (tgt := 42) hX dX10_guess_36 (by decide) (fun h9 => absurd (rfl) h9) (fun _ => ?_)
      refine g_ldc hX ccX10_97 dX10_guess_39 ?_
      refine g_iret (st := []) hX hE rfl dX10_guess_41 (⟨_, rfl, rfl, hR.thrown⟩)
  obtain ⟨w, hw, rfl⟩ := h3
  have cW : ∀ T : St, kX10_in Γ [.long (nI w).toInt64, .long 0, .long 1] T (rI 1 T) := fun T => c_inI_t (by rw [nI_toInt (by omega), L0]; omega) (by rw [nI_toInt (by omega), l1]; omega)
  obtain ⟨g1, g2, g3, g4, g5, g6⟩ := gu_ok r hr n (by omega)
  have e2 : (2 : Int32) * nI r = nI (2 * r) := by rw [show (2 : Int32) = nI 2 from rfl, nI_mul]
  refine ⟨nI ((if w = 0 then guA r n else guB r n) / guG r n), fun S1 => S1 = S, ?_, ?_⟩
  · refine oX9_guess (fun X hX hE => ?_)
    have loop : ∀ d i, i + d = n → G Γ X S 38 [(0, .ref (Γ.1 48)), (1, .int (nI r)), (2, .int (nI n)), (3, .int (nI w)), (4, .int (nI ((2 * r + 1) ^ i))), (5, .int (nI ((2 * r) ^ i))), (6, .int (nI i))] [] := by
      intro d
      induction d with
      | zero =>
        intro i hi
        obtain rfl : i = n := by omega
        have eA : (2 : Int32) * nI ((2 * r + 1) ^ i) - nI ((2 * r) ^ i) = nI (guA r i) := by rw [show (2 : Int32) = nI 2 from rfl, nI_mul, nI_sub g6]; rfl
        have eB : (2 : Int32) * nI ((2 * r + 1) ^ i) = nI (guB r i) := by rw [show (2 : Int32) = nI 2 from rfl, nI_mul]; rfl
        have hcd := c_commonDivisor (Γ := Γ) (S := S) g4 g5 g1 g2 g3
        rcases (by omega : w = 0 ∨ w = 1) with rfl | rfl
        · refine g_iload hX dX9_guess_38 rfl ?_
          refine g_iload_n (i := 2) hX dX9_guess_40 rfl rfl ?_
          refine g_icmp_ge (tgt := 68) hX dX9_guess_41 (by decide) (fun _ => ?_) (fun h9 => absurd (nI_le (Nat.le_refl _) (by omega)) h9)
          refine g_iconst hX dX9_guess_68 ic2 ?_
          refine g_iload hX dX9_guess_69 rfl ?_
          refine g_imul hX dX9_guess_71 ?_
          refine g_iload hX dX9_guess_72 rfl ?_
          refine g_isub hX dX9_guess_74 ?_
          refine g_istore hX dX9_guess_75 (by decide) rfl ?_
          refine g_iconst hX dX9_guess_77 ic2 ?_
          refine g_iload hX dX9_guess_78 rfl ?_
          refine g_imul hX dX9_guess_80 ?_
          refine g_istore hX dX9_guess_81 (by decide) rfl ?_
          refine g_iload hX dX9_guess_83 rfl ?_
          refine g_iload hX dX9_guess_85 rfl ?_
          refine sX9_258 hX ⟨Nat.le_of_ble_eq_true rfl, Nat.le_of_ble_eq_true rfl⟩ (Nat.le_of_ble_eq_true rfl) dX9_guess_87 ((by rw [eA, eB]; exact hcd)) ?_
          refine g_istore hX dX9_guess_90 (by decide) rfl ?_
          refine g_iload_n (i := 3) hX dX9_guess_92 rfl rfl ?_
          refine g_if_ne (tgt := 101) hX dX9_guess_93 (by decide) (fun h9 => absurd (rfl) h9) (fun _ => ?_)
          refine g_iload hX dX9_guess_96 rfl ?_
          refine g_goto (tgt := 103) hX dX9_guess_98 (by decide) ?_
          refine g_iload hX dX9_guess_103 rfl ?_
          refine g_idiv hX dX9_guess_105 (nI_ne0 g2 (by omega)) ?_
          refine g_iret (st := []) hX hE rfl dX9_guess_106 (⟨_, rfl, ?_, rfl⟩)
          rw [eA, div_nI (by omega) g2 (by omega)]; rfl
        · refine g_iload hX dX9_guess_38 rfl ?_
          refine g_iload_n (i := 2) hX dX9_guess_40 rfl rfl ?_
          refine g_icmp_ge (tgt := 68) hX dX9_guess_41 (by decide) (fun _ => ?_) (fun h9 => absurd (nI_le (Nat.le_refl _) (by omega)) h9)
          refine g_iconst hX dX9_guess_68 ic2 ?_
          refine g_iload hX dX9_guess_69 rfl ?_
          refine g_imul hX dX9_guess_71 ?_
          refine g_iload hX dX9_guess_72 rfl ?_
          refine g_isub hX dX9_guess_74 ?_
          refine g_istore hX dX9_guess_75 (by decide) rfl ?_
          refine g_iconst hX dX9_guess_77 ic2 ?_
          refine g_iload hX dX9_guess_78 rfl ?_
          refine g_imul hX dX9_guess_80 ?_
          refine g_istore hX dX9_guess_81 (by decide) rfl ?_
          refine g_iload hX dX9_guess_83 rfl ?_
          refine g_iload hX dX9_guess_85 rfl ?_
          refine sX9_258 hX ⟨Nat.le_of_ble_eq_true rfl, Nat.le_of_ble_eq_true rfl⟩ (Nat.le_of_ble_eq_true rfl) dX9_guess_87 ((by rw [eA, eB]; exact hcd)) ?_
          refine g_istore hX dX9_guess_90 (by decide) rfl ?_
          refine g_iload_n (i := 3) hX dX9_guess_92 rfl rfl ?_
          refine g_if_ne (tgt := 101) hX dX9_guess_93 (by decide) (fun _ => ?_) (fun h9 => absurd h9 ((by decide)))
          refine g_iload hX dX9_guess_101 rfl ?_
          refine g_iload hX dX9_guess_103 rfl ?_
          refine g_idiv hX dX9_guess_105 (nI_ne0 g2 (by omega)) ?_
          refine g_iret (st := []) hX hE rfl dX9_guess_106 (⟨_, rfl, ?_, rfl⟩)
          rw [eB, div_nI (by omega) g2 (by omega)]; rfl
      | succ d ih =>
        intro i hi
        refine g_iload hX dX9_guess_38 rfl ?_
        refine g_iload_n (i := 2) hX dX9_guess_40 rfl rfl ?_
        refine g_icmp_ge (tgt := 68) hX dX9_guess_41 (by decide) (fun h9 => absurd h9 (nI_ge (by omega) (by omega))) (fun _ => ?_)
        refine g_iload hX dX9_guess_44 rfl ?_
        refine g_iconst hX dX9_guess_46 ic2 ?_
        refine g_iload_n (i := 1) hX dX9_guess_47 rfl rfl ?_
        refine g_imul hX dX9_guess_48 ?_
        refine g_iconst hX dX9_guess_49 ic1 ?_
        refine g_iadd hX dX9_guess_50 ?_
        refine g_imul hX dX9_guess_51 ?_
        refine g_istore hX dX9_guess_52 (by decide) rfl ?_
        refine g_iload hX dX9_guess_54 rfl ?_
        refine g_iconst hX dX9_guess_56 ic2 ?_
        refine g_iload_n (i := 1) hX dX9_guess_57 rfl rfl ?_
        refine g_imul hX dX9_guess_58 ?_
        refine g_imul hX dX9_guess_59 ?_
        refine g_istore hX dX9_guess_60 (by decide) rfl ?_
        refine g_iinc hX dX9_guess_62 rfl ic1 (by decide) rfl ?_
        refine g_goto (tgt := 38) hX dX9_guess_65 (by decide) ?_
        rw [e2, nI_1, nI_1, nI_mul, nI_mul, ← Nat.pow_succ, ← Nat.pow_succ]
        exact ih (i + 1) (by omega)
    refine g_iload_n (i := 1) hX dX9_guess_0 rfl rfl ?_
    refine g_iconst hX dX9_guess_1 ic5 ?_
    refine sX9_96 hX ⟨Nat.le_of_ble_eq_true rfl, Nat.le_of_ble_eq_true rfl⟩ (Nat.le_of_ble_eq_true rfl) dX9_guess_2 (isB_t (n := 5) hr (by decide)) ?_
    refine g_if_eq (tgt := 26) hX dX9_guess_5 (by decide) (fun h9 => absurd h9 ((by decide))) (fun _ => ?_)
    refine g_iload_n (i := 2) hX dX9_guess_8 rfl rfl ?_
    refine g_iconst hX dX9_guess_9 ic1 ?_
    refine g_icmp_lt (tgt := 26) hX dX9_guess_10 (by decide) (fun h9 => absurd h9 (hn1')) (fun _ => ?_)
    refine g_iload_n (i := 2) hX dX9_guess_13 rfl rfl ?_
    refine g_iconst hX dX9_guess_14 ic3 ?_
    refine g_icmp_gt (tgt := 26) hX dX9_guess_15 (by decide) (fun h9 => absurd h9 (hn3')) (fun _ => ?_)
    refine g_iload_n (i := 3) hX dX9_guess_18 rfl rfl ?_
    refine g_iconst hX dX9_guess_19 ic2 ?_
    refine sX9_96 hX ⟨Nat.le_of_ble_eq_true rfl, Nat.le_of_ble_eq_true rfl⟩ (Nat.le_of_ble_eq_true rfl) dX9_guess_20 (isB_t (n := 2) hw (by decide)) ?_
    refine g_if_ne (tgt := 29) hX dX9_guess_23 (by decide) (fun _ => ?_) (fun h9 => absurd h9 ((by decide)))
    refine g_iconst hX dX9_guess_29 ic1 ?_
    refine g_istore hX dX9_guess_30 (by decide) rfl ?_
    refine g_iconst hX dX9_guess_32 ic1 ?_
    refine g_istore hX dX9_guess_33 (by decide) rfl ?_
    refine g_iconst hX dX9_guess_35 ic0 ?_
    refine g_istore hX dX9_guess_36 (by decide) rfl ?_
    exact loop n 0 (by omega)
  · rintro S1 rfl
    refine oX10_guess (fun X hX hE => ?_)
    have eA : nI (2 * (2 * r + 1) ^ n) - nI ((2 * r) ^ n) = nI (guA r n) := by rw [nI_sub g6]; rfl
    have fin : G Γ X (S0 S1) 115 [(0, .ref (Γ.1 67)), (1, .int (nI r)), (2, .int (nI n)), (3, .int (nI w)), (4, .int (nI ((2 * r) ^ n))), (5, .int (nI (2 * (2 * r + 1) ^ n))), (6, .int (nI (guG r n)))] [] := by
      rcases (by omega : w = 0 ∨ w = 1) with rfl | rfl
      · refine g_iload_n (i := 3) hX dX10_guess_115 rfl rfl ?_
        refine g_if_ne (tgt := 130) hX dX10_guess_116 (by decide) (fun h9 => absurd (rfl) h9) (fun _ => ?_)
        refine g_iload hX dX10_guess_119 rfl ?_
        refine g_iload hX dX10_guess_121 rfl ?_
        refine g_isub hX dX10_guess_123 ?_
        refine g_iload hX dX10_guess_124 rfl ?_
        refine g_idiv hX dX10_guess_126 (nI_ne0 g2 (by omega)) ?_
        refine g_goto (tgt := 135) hX dX10_guess_127 (by decide) ?_
        refine g_iret (st := []) hX hE rfl dX10_guess_135 (⟨_, rfl, ?_, hR.thrown⟩)
        rw [eA, div_nI (by omega) g2 (by omega)]; rfl
      · refine g_iload_n (i := 3) hX dX10_guess_115 rfl rfl ?_
        refine g_if_ne (tgt := 130) hX dX10_guess_116 (by decide) (fun _ => ?_) (fun h9 => absurd h9 ((by decide)))
        refine g_iload hX dX10_guess_130 rfl ?_
        refine g_iload hX dX10_guess_132 rfl ?_
        refine g_idiv hX dX10_guess_134 (nI_ne0 g2 (by omega)) ?_
        refine g_iret (st := []) hX hE rfl dX10_guess_135 (⟨_, rfl, ?_, hR.thrown⟩)
        show nI (guB r n) / nI (guG r n) = _
        rw [div_nI (by omega) g2 (by omega)]; rfl
    have euc : ∀ f a b, a < 2000 → b < 2000 → gcdF f a b = some (guG r n) → G Γ X (S0 S1) 92 [(0, .ref (Γ.1 67)), (1, .int (nI r)), (2, .int (nI n)), (3, .int (nI w)), (4, .int (nI ((2 * r) ^ n))), (5, .int (nI (2 * (2 * r + 1) ^ n))), (6, .int (nI a)), (7, .int (nI b))] [] := by
      intro f
      induction f with
      | zero => intro a b _ _ h; cases h
      | succ f ih =>
        intro a b ha hb h
        rw [gcdF] at h
        by_cases e : b = 0
        · rw [if_pos e] at h
          have h' := Option.some.inj h
          subst e
          rw [h']
          refine g_iload hX dX10_guess_92 rfl ?_
          refine g_if_eq (tgt := 115) hX dX10_guess_94 (by decide) (fun _ => ?_) (fun h9 => absurd (rfl) h9)
          exact g_weak fin (as_c rfl (as_c rfl (as_c rfl (as_c rfl (as_c rfl (as_c rfl (as_c rfl (as_n))))))))
        · rw [if_neg e] at h
          have hm : a % b < b := Nat.mod_lt _ (by omega)
          refine g_iload hX dX10_guess_92 rfl ?_
          refine g_if_eq (tgt := 115) hX dX10_guess_94 (by decide) (fun h9 => absurd h9 (nI_ne0 (by omega) (by omega))) (fun _ => ?_)
          refine g_iload hX dX10_guess_97 rfl ?_
          refine g_iload hX dX10_guess_99 rfl ?_
          refine g_irem hX dX10_guess_101 (nI_ne0 (by omega) (by omega)) ?_
          refine g_istore hX dX10_guess_102 (by decide) rfl ?_
          refine g_iload hX dX10_guess_104 rfl ?_
          refine g_istore hX dX10_guess_106 (by decide) rfl ?_
          refine g_iload hX dX10_guess_108 rfl ?_
          refine g_istore hX dX10_guess_110 (by decide) rfl ?_
          refine g_goto (tgt := 92) hX dX10_guess_112 (by decide) ?_
          rw [jrem_nI (by omega) (by omega) (by omega)]
          exact g_weak (ih b (a % b) hb (by omega) h) (as_c rfl (as_c rfl (as_c rfl (as_c rfl (as_c rfl (as_c rfl (as_c rfl (as_c rfl (as_n)))))))))
    have loop : ∀ d i, i + d = n → G Γ X (S0 S1) 51 [(0, .ref (Γ.1 67)), (1, .int (nI r)), (2, .int (nI n)), (3, .int (nI w)), (4, .int (nI ((2 * r) ^ i))), (5, .int (nI (2 * (2 * r + 1) ^ i))), (6, .int (nI i))] [] := by
      intro d
      induction d with
      | zero =>
        intro i hi
        obtain rfl : i = n := by omega
        refine g_iload hX dX10_guess_51 rfl ?_
        refine g_iload_n (i := 2) hX dX10_guess_53 rfl rfl ?_
        refine g_icmp_ge (tgt := 81) hX dX10_guess_54 (by decide) (fun _ => ?_) (fun h9 => absurd (nI_le (Nat.le_refl _) (by omega)) h9)
        refine g_iload hX dX10_guess_81 rfl ?_
        refine g_iload hX dX10_guess_83 rfl ?_
        refine g_isub hX dX10_guess_85 ?_
        refine g_istore hX dX10_guess_86 (by decide) rfl ?_
        refine g_iload hX dX10_guess_88 rfl ?_
        refine g_istore hX dX10_guess_90 (by decide) rfl ?_
        rw [eA]
        exact euc 64 (guA r i) (guB r i) g4 g5 g1
      | succ d ih =>
        intro i hi
        refine g_iload hX dX10_guess_51 rfl ?_
        refine g_iload_n (i := 2) hX dX10_guess_53 rfl rfl ?_
        refine g_icmp_ge (tgt := 81) hX dX10_guess_54 (by decide) (fun h9 => absurd h9 (nI_ge (by omega) (by omega))) (fun _ => ?_)
        refine g_iload hX dX10_guess_57 rfl ?_
        refine g_iconst hX dX10_guess_59 ic2 ?_
        refine g_iload_n (i := 1) hX dX10_guess_60 rfl rfl ?_
        refine g_imul hX dX10_guess_61 ?_
        refine g_imul hX dX10_guess_62 ?_
        refine g_istore hX dX10_guess_63 (by decide) rfl ?_
        refine g_iload hX dX10_guess_65 rfl ?_
        refine g_iconst hX dX10_guess_67 ic2 ?_
        refine g_iload_n (i := 1) hX dX10_guess_68 rfl rfl ?_
        refine g_imul hX dX10_guess_69 ?_
        refine g_iconst hX dX10_guess_70 ic1 ?_
        refine g_iadd hX dX10_guess_71 ?_
        refine g_imul hX dX10_guess_72 ?_
        refine g_istore hX dX10_guess_73 (by decide) rfl ?_
        refine g_iinc hX dX10_guess_75 rfl ic1 (by decide) rfl ?_
        refine g_goto (tgt := 51) hX dX10_guess_78 (by decide) ?_
        rw [e2, nI_1, nI_1, nI_mul, nI_mul, ← Nat.pow_succ, Nat.mul_assoc, ← Nat.pow_succ]
        exact ih (i + 1) (by omega)
    refine g_aload_n (i := 0) hX dX10_guess_0 rfl rfl ?_
    refine g_iconst hX dX10_guess_1 ic0 ?_
    refine pX10_78 hX dX10_guess_2 ?_
    refine g_iload_n (i := 1) hX dX10_guess_5 rfl rfl ?_
    refine g_i2l hX dX10_guess_6 ?_
    refine g_lconst (v := 0) hX dX10_guess_7 (by decide) ?_
    refine g_ldc2_w hX ccX10_114 dX10_guess_8 ?_
    refine sX10_87 hX ⟨Nat.le_of_ble_eq_true rfl, Nat.le_of_ble_eq_true rfl⟩ (Nat.le_of_ble_eq_true rfl) dX10_guess_11 (cR _) ?_
    refine g_if_eq (tgt := 39) hX dX10_guess_14 (by decide) (fun h9 => absurd h9 ((by decide))) (fun _ => ?_)
    refine g_iload_n (i := 2) hX dX10_guess_17 rfl rfl ?_
    refine g_i2l hX dX10_guess_18 ?_
    refine g_lconst (v := 1) hX dX10_guess_19 (by decide) ?_
    refine g_ldc2_w hX ccX10_128 dX10_guess_20 ?_
    refine sX10_87 hX ⟨Nat.le_of_ble_eq_true rfl, Nat.le_of_ble_eq_true rfl⟩ (Nat.le_of_ble_eq_true rfl) dX10_guess_23 (cN _) ?_
    refine g_if_eq (tgt := 39) hX dX10_guess_26 (by decide) (fun h9 => absurd h9 ((by decide))) (fun _ => ?_)
    refine g_iload_n (i := 3) hX dX10_guess_29 rfl rfl ?_
    refine g_i2l hX dX10_guess_30 ?_
    refine g_lconst (v := 0) hX dX10_guess_31 (by decide) ?_
    refine g_lconst (v := 1) hX dX10_guess_32 (by decide) ?_
    refine sX10_87 hX ⟨Nat.le_of_ble_eq_true rfl, Nat.le_of_ble_eq_true rfl⟩ (Nat.le_of_ble_eq_true rfl) dX10_guess_33 (cW _) ?_
    refine g_if_ne (tgt := 42) hX dX10_guess_36 (by decide) (fun _ => ?_) (fun h9 => absurd h9 ((by decide)))
    refine g_iconst hX dX10_guess_42 ic1 ?_
    refine g_istore hX dX10_guess_43 (by decide) rfl ?_
    refine g_iconst hX dX10_guess_45 ic2 ?_
    refine g_istore hX dX10_guess_46 (by decide) rfl ?_
    refine g_iconst hX dX10_guess_48 ic0 ?_
    refine g_istore hX dX10_guess_49 (by decide) rfl ?_
    exact loop n 0 (by omega)
