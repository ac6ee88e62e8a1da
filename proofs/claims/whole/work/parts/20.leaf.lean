/-! small static methods -/
theorem lt_of5 {x : Int32} (h : nI 5 ≤ x) : (4 : Int32) < x := by
  have h1 : (nI 5).toInt ≤ x.toInt := Int32.le_iff_toInt_le.mp h
  have h2 : (nI 5).toInt = 5 := by decide
  refine Int32.lt_iff_toInt_lt.mpr ?_
  have h3 : (4 : Int32).toInt = 4 := by decide
  omega
theorem isB_t {Γ : GG} {S : St} {j n : Nat} (h : j < n) (hn : n < 2 ^ 31) : kX9_isBelow Γ [.int (nI j), .int (nI n)] S (rI 1 S) := by
  refine oX9_isBelow (fun X hX hE => ?_)
  refine g_iload_n (i := 0) hX dX9_isBelow_0 rfl rfl ?_
  refine g_if_lt (tgt := 13) hX dX9_isBelow_1 (by decide) (fun h9 => absurd h9 (nI_pos (by omega))) (fun _ => ?_)
  refine g_iload_n (i := 0) hX dX9_isBelow_4 rfl rfl ?_
  refine g_iload_n (i := 1) hX dX9_isBelow_5 rfl rfl ?_
  refine g_icmp_ge (tgt := 13) hX dX9_isBelow_6 (by decide) (fun h9 => absurd h9 (nI_ge h hn)) (fun _ => ?_)
  refine g_iconst hX dX9_isBelow_9 ic1 ?_
  refine g_goto (tgt := 14) hX dX9_isBelow_10 (by decide) ?_
  refine g_zret (st := []) hX hE rfl (nz_narrow (Or.inr rfl)).1 dX9_isBelow_14 (⟨rfl, rfl⟩)
theorem isB_f {Γ : GG} {S : St} {x : Int32} {n : Nat} (hn : n < 2 ^ 31) (h : ¬ inB x n) : kX9_isBelow Γ [.int x, .int (nI n)] S (rI 0 S) := by
  refine oX9_isBelow (fun X hX hE => ?_)
  have h2 := not_inB hn h
  refine g_iload_n (i := 0) hX dX9_isBelow_0 rfl rfl ?_
  refine g_if_lt (tgt := 13) hX dX9_isBelow_1 (by decide) (fun h0 => ?_) (fun h0 => ?_)
  · refine g_iconst hX dX9_isBelow_13 ic0 ?_
    refine g_zret (st := []) hX hE rfl (nz_narrow (Or.inl rfl)).1 dX9_isBelow_14 (⟨rfl, rfl⟩)
  · refine g_iload_n (i := 0) hX dX9_isBelow_4 rfl rfl ?_
    refine g_iload_n (i := 1) hX dX9_isBelow_5 rfl rfl ?_
    refine g_icmp_ge (tgt := 13) hX dX9_isBelow_6 (by decide) (fun _ => ?_) (fun h9 => absurd (h2.resolve_left h0) h9)
    refine g_iconst hX dX9_isBelow_13 ic0 ?_
    refine g_zret (st := []) hX hE rfl (nz_narrow (Or.inl rfl)).1 dX9_isBelow_14 (⟨rfl, rfl⟩)
theorem isC_t {Γ : GG} {S : St} {j : Nat} (h : j < 5) : kX9_isComers Γ [.int (nI j)] S (rI 1 S) := by
  refine oX9_isComers (fun X hX hE => ?_)
  refine g_iload_n (i := 0) hX dX9_isComers_0 rfl rfl ?_
  refine g_if_lt (tgt := 13) hX dX9_isComers_1 (by decide) (fun h9 => absurd h9 (nI_pos (by omega))) (fun _ => ?_)
  refine g_iload_n (i := 0) hX dX9_isComers_4 rfl rfl ?_
  refine g_iconst hX dX9_isComers_5 ic4 ?_
  refine g_icmp_gt (tgt := 13) hX dX9_isComers_6 (by decide) (fun h9 => absurd h9 (nI_nlt (b := j) (a := 4) (by omega) (by omega))) (fun _ => ?_)
  refine g_iconst hX dX9_isComers_9 ic1 ?_
  refine g_goto (tgt := 14) hX dX9_isComers_10 (by decide) ?_
  refine g_zret (st := []) hX hE rfl (nz_narrow (Or.inr rfl)).1 dX9_isComers_14 (⟨rfl, rfl⟩)
theorem isC_f {Γ : GG} {S : St} {x : Int32} (h : ¬ inB x 5) : kX9_isComers Γ [.int x] S (rI 0 S) := by
  refine oX9_isComers (fun X hX hE => ?_)
  have h2 := not_inB (by decide) h
  refine g_iload_n (i := 0) hX dX9_isComers_0 rfl rfl ?_
  refine g_if_lt (tgt := 13) hX dX9_isComers_1 (by decide) (fun h0 => ?_) (fun h0 => ?_)
  · refine g_iconst hX dX9_isComers_13 ic0 ?_
    refine g_zret (st := []) hX hE rfl (nz_narrow (Or.inl rfl)).1 dX9_isComers_14 (⟨rfl, rfl⟩)
  · refine g_iload_n (i := 0) hX dX9_isComers_4 rfl rfl ?_
    refine g_iconst hX dX9_isComers_5 ic4 ?_
    refine g_icmp_gt (tgt := 13) hX dX9_isComers_6 (by decide) (fun _ => ?_) (fun h9 => absurd (lt_of5 (h2.resolve_left h0)) h9)
    refine g_iconst hX dX9_isComers_13 ic0 ?_
    refine g_zret (st := []) hX hE rfl (nz_narrow (Or.inl rfl)).1 dX9_isComers_14 (⟨rfl, rfl⟩)
def sumN (f : Nat → Int32) : Nat → Int32
  | 0 => 0
  | n + 1 => sumN f n + f n
def nzN (f : Nat → Int32) : Nat → Nat
  | 0 => 0
  | n + 1 => nzN f n + (if f n = 0 then 0 else 1)
theorem c_sumOf {Γ : GG} {S : St} {k n : Nat} (ha : IsArr k n) (hn : n < 2 ^ 31) : kX9_sumOf Γ [.ref (Γ.1 k)] S (rI (sumN (S.1 k) n) S) := by
  refine oX9_sumOf (fun X hX hE => ?_)
  have loop : ∀ d i, i + d = n → G Γ X S 4 [(0, .ref (Γ.1 k)), (1, .int (sumN (S.1 k) i)), (2, .int (nI i))] [] := by
    intro d
    induction d with
    | zero =>
      intro i hi
      obtain rfl : i = n := by omega
      refine g_iload_n (i := 2) hX dX9_sumOf_4 rfl rfl ?_
      refine g_aload_n (i := 0) hX dX9_sumOf_5 rfl rfl ?_
      refine g_alen hX (ha).1 (ha).2 dX9_sumOf_6 ?_
      refine g_icmp_ge (tgt := 22) hX dX9_sumOf_7 (by decide) (fun _ => ?_) (fun h9 => absurd (nI_le (Nat.le_refl _) hn) h9)
      refine g_iload_n (i := 1) hX dX9_sumOf_22 rfl rfl ?_
      refine g_iret (st := []) hX hE rfl dX9_sumOf_23 (⟨rfl, rfl⟩)
    | succ d ih =>
      intro i hi
      refine g_iload_n (i := 2) hX dX9_sumOf_4 rfl rfl ?_
      refine g_aload_n (i := 0) hX dX9_sumOf_5 rfl rfl ?_
      refine g_alen hX (ha).1 (ha).2 dX9_sumOf_6 ?_
      refine g_icmp_ge (tgt := 22) hX dX9_sumOf_7 (by decide) (fun h9 => absurd h9 (nI_ge (by omega) hn)) (fun _ => ?_)
      refine g_iload_n (i := 1) hX dX9_sumOf_10 rfl rfl ?_
      refine g_aload_n (i := 0) hX dX9_sumOf_11 rfl rfl ?_
      refine g_iload_n (i := 2) hX dX9_sumOf_12 rfl rfl ?_
      refine g_ialoadN hX (ha) rfl ((show i < n by omega)) (by first | decide | assumption | omega) dX9_sumOf_13 ?_
      refine g_iadd hX dX9_sumOf_14 ?_
      refine g_istore_n (i := 1) hX dX9_sumOf_15 rfl (by decide) rfl ?_
      refine g_iinc hX dX9_sumOf_16 rfl ic1 (by decide) rfl ?_
      refine g_goto (tgt := 4) hX dX9_sumOf_19 (by decide) ?_
      rw [nI_1]
      exact ih (i + 1) (by omega)
  refine g_iconst hX dX9_sumOf_0 ic0 ?_
  refine g_istore_n (i := 1) hX dX9_sumOf_1 rfl (by decide) rfl ?_
  refine g_iconst hX dX9_sumOf_2 ic0 ?_
  refine g_istore_n (i := 2) hX dX9_sumOf_3 rfl (by decide) rfl ?_
  exact loop n 0 (by omega)
theorem c_nz {Γ : GG} {S : St} {k n : Nat} (ha : IsArr k n) (hn : n < 2 ^ 31) : kX9_howManyNotZero Γ [.ref (Γ.1 k)] S (rI (nI (nzN (S.1 k) n)) S) := by
  refine oX9_howManyNotZero (fun X hX hE => ?_)
  have loop : ∀ d i, i + d = n → G Γ X S 4 [(0, .ref (Γ.1 k)), (1, .int (nI (nzN (S.1 k) i))), (2, .int (nI i))] [] := by
    intro d
    induction d with
    | zero =>
      intro i hi
      obtain rfl : i = n := by omega
      refine g_iload_n (i := 2) hX dX9_howManyNotZero_4 rfl rfl ?_
      refine g_aload_n (i := 0) hX dX9_howManyNotZero_5 rfl rfl ?_
      refine g_alen hX (ha).1 (ha).2 dX9_howManyNotZero_6 ?_
      refine g_icmp_ge (tgt := 25) hX dX9_howManyNotZero_7 (by decide) (fun _ => ?_) (fun h9 => absurd (nI_le (Nat.le_refl _) hn) h9)
      refine g_iload_n (i := 1) hX dX9_howManyNotZero_25 rfl rfl ?_
      refine g_iret (st := []) hX hE rfl dX9_howManyNotZero_26 (⟨rfl, rfl⟩)
    | succ d ih =>
      intro i hi
      refine g_iload_n (i := 2) hX dX9_howManyNotZero_4 rfl rfl ?_
      refine g_aload_n (i := 0) hX dX9_howManyNotZero_5 rfl rfl ?_
      refine g_alen hX (ha).1 (ha).2 dX9_howManyNotZero_6 ?_
      refine g_icmp_ge (tgt := 25) hX dX9_howManyNotZero_7 (by decide) (fun h9 => absurd h9 (nI_ge (by omega) hn)) (fun _ => ?_)
      refine g_aload_n (i := 0) hX dX9_howManyNotZero_10 rfl rfl ?_
      refine g_iload_n (i := 2) hX dX9_howManyNotZero_11 rfl rfl ?_
      refine g_ialoadN hX (ha) rfl ((show i < n by omega)) (by first | decide | assumption | omega) dX9_howManyNotZero_12 ?_
      refine g_if_eq (tgt := 19) hX dX9_howManyNotZero_13 (by decide) (fun h0 => ?_) (fun h0 => ?_)
      · refine g_iinc hX dX9_howManyNotZero_19 rfl ic1 (by decide) rfl ?_
        refine g_goto (tgt := 4) hX dX9_howManyNotZero_22 (by decide) ?_
        have e : nzN (S.1 k) (i + 1) = nzN (S.1 k) i := by simp [nzN, h0]
        rw [nI_1, ← e]
        exact ih (i + 1) (by omega)
      · refine g_iinc hX dX9_howManyNotZero_16 rfl ic1 (by decide) rfl ?_
        refine g_iinc hX dX9_howManyNotZero_19 rfl ic1 (by decide) rfl ?_
        refine g_goto (tgt := 4) hX dX9_howManyNotZero_22 (by decide) ?_
        have e : nzN (S.1 k) (i + 1) = nzN (S.1 k) i + 1 := by simp [nzN, h0]
        rw [nI_1, nI_1, ← e]
        exact ih (i + 1) (by omega)
  refine g_iconst hX dX9_howManyNotZero_0 ic0 ?_
  refine g_istore_n (i := 1) hX dX9_howManyNotZero_1 rfl (by decide) rfl ?_
  refine g_iconst hX dX9_howManyNotZero_2 ic0 ?_
  refine g_istore_n (i := 2) hX dX9_howManyNotZero_3 rfl (by decide) rfl ?_
  exact loop n 0 (by omega)
theorem c_finding {Γ : GG} {S : St} {n : Int32} : kX9_finding Γ [.ref (Γ.1 48), .int n] S (rI (-1000010 - n) (pI S 48 15 n)) := by
  refine oX9_finding (fun X hX hE => ?_)
  refine g_aload_n (i := 0) hX dX9_finding_0 rfl rfl ?_
  refine g_iload_n (i := 1) hX dX9_finding_1 rfl rfl ?_
  refine pX9_89 hX dX9_finding_2 ?_
  refine g_ldc_w hX ccX9_288 dX9_finding_5 ?_
  refine g_iload_n (i := 1) hX dX9_finding_8 rfl rfl ?_
  refine g_isub hX dX9_finding_9 ?_
  refine g_iret (st := []) hX hE rfl dX9_finding_10 (⟨rfl, rfl⟩)
theorem c_noFinding {Γ : GG} {S : St} {n : Int32} : kX9_noFinding Γ [.ref (Γ.1 48), .int n] S (rI n (pI S 48 15 0)) := by
  refine oX9_noFinding (fun X hX hE => ?_)
  refine g_aload_n (i := 0) hX dX9_noFinding_0 rfl rfl ?_
  refine g_iconst hX dX9_noFinding_1 ic0 ?_
  refine pX9_89 hX dX9_noFinding_2 ?_
  refine g_iload_n (i := 1) hX dX9_noFinding_5 rfl rfl ?_
  refine g_iret (st := []) hX hE rfl dX9_noFinding_6 (⟨rfl, rfl⟩)
/-- Arrays.fill -/
theorem fill_step (S : St) (k i : Nat) (x : Int32) : pI (pR S k (fun j => if j < i then x else S.1 k j)) k i x = pR S k (fun j => if j < i + 1 then x else S.1 k j) := by
  show pR (pR S k _) k (upd ((pR S k _).1 k) i x) = _
  rw [pR_self, pR_pR]
  congr 1
  funext j
  by_cases h : j = i
  · subst h; simp [upd]
  · by_cases h1 : j < i
    · have h2 : j < i + 1 := by omega
      simp [upd, h, h1, h2]
    · have h2 : ¬ j < i + 1 := by omega
      simp [upd, h, h1, h2]
theorem c_fill {Γ : GG} {S : St} {k n : Nat} {x : Int32} (ha : IsArr k n) (hn : n < 2 ^ 31) : kJ7_fill_53178 Γ [.ref (Γ.1 k), .int x] S (rV (pR S k (fun j => if j < n then x else S.1 k j))) := by
  refine oJ7_fill_53178 (fun X hX hE => ?_)
  have loop : ∀ d i, i + d = n → G Γ X (pR S k (fun j => if j < i then x else S.1 k j)) 5 [(0, .ref (Γ.1 k)), (1, .int x), (2, .int (nI i)), (3, .int (nI n))] [] := by
    intro d
    induction d with
    | zero =>
      intro i hi
      obtain rfl : i = n := by omega
      refine g_iload_n (i := 2) hX dJ7_fill_53178_5 rfl rfl ?_
      refine g_iload_n (i := 3) hX dJ7_fill_53178_6 rfl rfl ?_
      refine g_icmp_ge (tgt := 20) hX dJ7_fill_53178_7 (by decide) (fun _ => ?_) (fun h9 => absurd (nI_le (Nat.le_refl _) hn) h9)
      refine g_vret (st := []) hX hE rfl dJ7_fill_53178_20 (⟨rfl, rfl⟩)
    | succ d ih =>
      intro i hi
      refine g_iload_n (i := 2) hX dJ7_fill_53178_5 rfl rfl ?_
      refine g_iload_n (i := 3) hX dJ7_fill_53178_6 rfl rfl ?_
      refine g_icmp_ge (tgt := 20) hX dJ7_fill_53178_7 (by decide) (fun h9 => absurd h9 (nI_ge (by omega) hn)) (fun _ => ?_)
      refine g_aload_n (i := 0) hX dJ7_fill_53178_10 rfl rfl ?_
      refine g_iload_n (i := 2) hX dJ7_fill_53178_11 rfl rfl ?_
      refine g_iload_n (i := 1) hX dJ7_fill_53178_12 rfl rfl ?_
      refine g_iastoreN hX (ha) rfl ((show i < n by omega)) (by first | decide | assumption | omega) dJ7_fill_53178_13 ?_
      refine g_iinc hX dJ7_fill_53178_14 rfl ic1 (by decide) rfl ?_
      refine g_goto (tgt := 5) hX dJ7_fill_53178_17 (by decide) ?_
      rw [nI_1, fill_step]
      exact ih (i + 1) (by omega)
  have h0 := loop n 0 (by omega)
  have e : pR S k (fun j => if j < 0 then x else S.1 k j) = S := by
    rw [show (fun j => if j < 0 then x else S.1 k j) = S.1 k from by funext j; simp]
    exact pR_eta S k
  rw [e] at h0
  refine g_iconst hX dJ7_fill_53178_0 ic0 ?_
  refine g_istore_n (i := 2) hX dJ7_fill_53178_1 rfl (by decide) rfl ?_
  refine g_aload_n (i := 0) hX dJ7_fill_53178_2 rfl rfl ?_
  refine g_alen hX (ha).1 (ha).2 dJ7_fill_53178_3 ?_
  refine g_istore_n (i := 3) hX dJ7_fill_53178_4 rfl (by decide) rfl ?_
  exact h0
/-- Integer.bitCount -/
theorem c_bitCount {Γ : GG} {S : St} {x : Int32} : kJ6_bitCount_0f7a4 Γ [.int x] S (rI (bc x) S) := by
  refine oJ6_bitCount_0f7a4 (fun X hX hE => ?_)
  refine g_iload_n (i := 0) hX dJ6_bitCount_0f7a4_0 rfl rfl ?_
  refine g_iload_n (i := 0) hX dJ6_bitCount_0f7a4_1 rfl rfl ?_
  refine g_iconst hX dJ6_bitCount_0f7a4_2 ic1 ?_
  refine g_iushr hX dJ6_bitCount_0f7a4_3 ?_
  refine g_ldc_w hX ccJ6_265 dJ6_bitCount_0f7a4_4 ?_
  refine g_iand hX dJ6_bitCount_0f7a4_7 ?_
  refine g_isub hX dJ6_bitCount_0f7a4_8 ?_
  refine g_istore_n (i := 0) hX dJ6_bitCount_0f7a4_9 rfl (by decide) rfl ?_
  refine g_iload_n (i := 0) hX dJ6_bitCount_0f7a4_10 rfl rfl ?_
  refine g_ldc_w hX ccJ6_266 dJ6_bitCount_0f7a4_11 ?_
  refine g_iand hX dJ6_bitCount_0f7a4_14 ?_
  refine g_iload_n (i := 0) hX dJ6_bitCount_0f7a4_15 rfl rfl ?_
  refine g_iconst hX dJ6_bitCount_0f7a4_16 ic2 ?_
  refine g_iushr hX dJ6_bitCount_0f7a4_17 ?_
  refine g_ldc_w hX ccJ6_266 dJ6_bitCount_0f7a4_18 ?_
  refine g_iand hX dJ6_bitCount_0f7a4_21 ?_
  refine g_iadd hX dJ6_bitCount_0f7a4_22 ?_
  refine g_istore_n (i := 0) hX dJ6_bitCount_0f7a4_23 rfl (by decide) rfl ?_
  refine g_iload_n (i := 0) hX dJ6_bitCount_0f7a4_24 rfl rfl ?_
  refine g_iload_n (i := 0) hX dJ6_bitCount_0f7a4_25 rfl rfl ?_
  refine g_iconst hX dJ6_bitCount_0f7a4_26 ic4 ?_
  refine g_iushr hX dJ6_bitCount_0f7a4_27 ?_
  refine g_iadd hX dJ6_bitCount_0f7a4_28 ?_
  refine g_ldc_w hX ccJ6_267 dJ6_bitCount_0f7a4_29 ?_
  refine g_iand hX dJ6_bitCount_0f7a4_32 ?_
  refine g_istore_n (i := 0) hX dJ6_bitCount_0f7a4_33 rfl (by decide) rfl ?_
  refine g_iload_n (i := 0) hX dJ6_bitCount_0f7a4_34 rfl rfl ?_
  refine g_iload_n (i := 0) hX dJ6_bitCount_0f7a4_35 rfl rfl ?_
  refine g_bipush hX dJ6_bitCount_0f7a4_36 bp8 ?_
  refine g_iushr hX dJ6_bitCount_0f7a4_38 ?_
  refine g_iadd hX dJ6_bitCount_0f7a4_39 ?_
  refine g_istore_n (i := 0) hX dJ6_bitCount_0f7a4_40 rfl (by decide) rfl ?_
  refine g_iload_n (i := 0) hX dJ6_bitCount_0f7a4_41 rfl rfl ?_
  refine g_iload_n (i := 0) hX dJ6_bitCount_0f7a4_42 rfl rfl ?_
  refine g_bipush hX dJ6_bitCount_0f7a4_43 bp16 ?_
  refine g_iushr hX dJ6_bitCount_0f7a4_45 ?_
  refine g_iadd hX dJ6_bitCount_0f7a4_46 ?_
  refine g_istore_n (i := 0) hX dJ6_bitCount_0f7a4_47 rfl (by decide) rfl ?_
  refine g_iload_n (i := 0) hX dJ6_bitCount_0f7a4_48 rfl rfl ?_
  refine g_bipush hX dJ6_bitCount_0f7a4_49 bp63 ?_
  refine g_iand hX dJ6_bitCount_0f7a4_51 ?_
  refine g_iret (st := []) hX hE rfl dJ6_bitCount_0f7a4_52 (⟨rfl, rfl⟩)
/-- the reference's in -/
theorem c_in_t {Γ : GG} {S : St} {v a b : Int64} (h1 : a ≤ v) (h2 : v ≤ b) : kX10_in Γ [.long v, .long a, .long b] S (rI 1 S) := by
  refine oX10_in (fun X hX hE => ?_)
  refine g_lload_n (i := 0) hX dX10_in_0 rfl rfl ?_
  refine g_lload_n (i := 2) hX dX10_in_1 rfl rfl ?_
  refine g_lcmp hX dX10_in_2 ?_
  refine g_if_lt (tgt := 17) hX dX10_in_3 (by decide) (fun h9 => absurd h9 (lcmp_nlt h1)) (fun _ => ?_)
  refine g_lload_n (i := 0) hX dX10_in_6 rfl rfl ?_
  refine g_lload hX dX10_in_7 rfl ?_
  refine g_lcmp hX dX10_in_9 ?_
  refine g_if_gt (tgt := 17) hX dX10_in_10 (by decide) (fun h9 => absurd h9 (lcmp_ngt h2)) (fun _ => ?_)
  refine g_iconst hX dX10_in_13 ic1 ?_
  refine g_goto (tgt := 18) hX dX10_in_14 (by decide) ?_
  refine g_zret (st := []) hX hE rfl (nz_narrow (Or.inr rfl)).1 dX10_in_18 (⟨rfl, rfl⟩)
theorem c_in_f {Γ : GG} {S : St} {v a b : Int64} (h : ¬ (a ≤ v ∧ v ≤ b)) : kX10_in Γ [.long v, .long a, .long b] S (rI 0 S) := by
  refine oX10_in (fun X hX hE => ?_)
  by_cases h1 : a ≤ v
  · have h2 : ¬ v ≤ b := fun q => h ⟨h1, q⟩
    refine g_lload_n (i := 0) hX dX10_in_0 rfl rfl ?_
    refine g_lload_n (i := 2) hX dX10_in_1 rfl rfl ?_
    refine g_lcmp hX dX10_in_2 ?_
    refine g_if_lt (tgt := 17) hX dX10_in_3 (by decide) (fun h9 => absurd h9 (lcmp_nlt h1)) (fun _ => ?_)
    refine g_lload_n (i := 0) hX dX10_in_6 rfl rfl ?_
    refine g_lload hX dX10_in_7 rfl ?_
    refine g_lcmp hX dX10_in_9 ?_
    refine g_if_gt (tgt := 17) hX dX10_in_10 (by decide) (fun _ => ?_) (fun h9 => absurd (lcmp_gt h2) h9)
    refine g_iconst hX dX10_in_17 ic0 ?_
    refine g_zret (st := []) hX hE rfl (nz_narrow (Or.inl rfl)).1 dX10_in_18 (⟨rfl, rfl⟩)
  · refine g_lload_n (i := 0) hX dX10_in_0 rfl rfl ?_
    refine g_lload_n (i := 2) hX dX10_in_1 rfl rfl ?_
    refine g_lcmp hX dX10_in_2 ?_
    refine g_if_lt (tgt := 17) hX dX10_in_3 (by decide) (fun _ => ?_) (fun h9 => absurd (lcmp_lt h1) h9)
    refine g_iconst hX dX10_in_17 ic0 ?_
    refine g_zret (st := []) hX hE rfl (nz_narrow (Or.inl rfl)).1 dX10_in_18 (⟨rfl, rfl⟩)
