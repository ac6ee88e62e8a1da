/-! the weights: small methods of both -/
def fOf (p : Nat) : Nat := if p = 0 then 0 else if p = 1 then 10 else if p = 2 then 31 else 40
def lOf (p : Nat) : Nat := if p = 0 then 9 else if p = 1 then 20 else if p = 2 then 39 else 48
theorem c_firstOf {Γ : GG} {S : St} {p : Nat} (hp : p < 4) : kX10_firstOf Γ [.int (nI p)] S (rI (nI (fOf p)) S) := by
  refine oX10_firstOf (fun X hX hE => ?_)
  rcases (by omega : p = 0 ∨ p = 1 ∨ p = 2 ∨ p = 3) with rfl | rfl | rfl | rfl
  · refine g_iload_n (i := 0) hX dX10_firstOf_0 rfl rfl ?_
    refine g_if_ne (tgt := 8) hX dX10_firstOf_1 (by decide) (fun h9 => absurd (rfl) h9) (fun _ => ?_)
    refine g_iconst hX dX10_firstOf_4 ic0 ?_
    refine g_goto (tgt := 30) hX dX10_firstOf_5 (by decide) ?_
    refine g_iret (st := []) hX hE rfl dX10_firstOf_30 (⟨rfl, rfl⟩)
  · refine g_iload_n (i := 0) hX dX10_firstOf_0 rfl rfl ?_
    refine g_if_ne (tgt := 8) hX dX10_firstOf_1 (by decide) (fun _ => ?_) (fun h9 => absurd h9 ((by decide)))
    refine g_iload_n (i := 0) hX dX10_firstOf_8 rfl rfl ?_
    refine g_iconst hX dX10_firstOf_9 ic1 ?_
    refine g_icmp_ne (tgt := 18) hX dX10_firstOf_10 (by decide) (fun h9 => absurd (rfl) h9) (fun _ => ?_)
    refine g_bipush hX dX10_firstOf_13 bp10 ?_
    refine g_goto (tgt := 30) hX dX10_firstOf_15 (by decide) ?_
    refine g_iret (st := []) hX hE rfl dX10_firstOf_30 (⟨rfl, rfl⟩)
  · refine g_iload_n (i := 0) hX dX10_firstOf_0 rfl rfl ?_
    refine g_if_ne (tgt := 8) hX dX10_firstOf_1 (by decide) (fun _ => ?_) (fun h9 => absurd h9 ((by decide)))
    refine g_iload_n (i := 0) hX dX10_firstOf_8 rfl rfl ?_
    refine g_iconst hX dX10_firstOf_9 ic1 ?_
    refine g_icmp_ne (tgt := 18) hX dX10_firstOf_10 (by decide) (fun _ => ?_) (fun h9 => absurd h9 ((by decide)))
    refine g_iload_n (i := 0) hX dX10_firstOf_18 rfl rfl ?_
    refine g_iconst hX dX10_firstOf_19 ic2 ?_
    refine g_icmp_ne (tgt := 28) hX dX10_firstOf_20 (by decide) (fun h9 => absurd (rfl) h9) (fun _ => ?_)
    refine g_bipush hX dX10_firstOf_23 bp31 ?_
    refine g_goto (tgt := 30) hX dX10_firstOf_25 (by decide) ?_
    refine g_iret (st := []) hX hE rfl dX10_firstOf_30 (⟨rfl, rfl⟩)
  · refine g_iload_n (i := 0) hX dX10_firstOf_0 rfl rfl ?_
    refine g_if_ne (tgt := 8) hX dX10_firstOf_1 (by decide) (fun _ => ?_) (fun h9 => absurd h9 ((by decide)))
    refine g_iload_n (i := 0) hX dX10_firstOf_8 rfl rfl ?_
    refine g_iconst hX dX10_firstOf_9 ic1 ?_
    refine g_icmp_ne (tgt := 18) hX dX10_firstOf_10 (by decide) (fun _ => ?_) (fun h9 => absurd h9 ((by decide)))
    refine g_iload_n (i := 0) hX dX10_firstOf_18 rfl rfl ?_
    refine g_iconst hX dX10_firstOf_19 ic2 ?_
    refine g_icmp_ne (tgt := 28) hX dX10_firstOf_20 (by decide) (fun _ => ?_) (fun h9 => absurd h9 ((by decide)))
    refine g_bipush hX dX10_firstOf_28 bp40 ?_
    refine g_iret (st := []) hX hE rfl dX10_firstOf_30 (⟨rfl, rfl⟩)
theorem c_lastOf {Γ : GG} {S : St} {p : Nat} (hp : p < 4) : kX10_lastOf Γ [.int (nI p)] S (rI (nI (lOf p)) S) := by
  refine oX10_lastOf (fun X hX hE => ?_)
  rcases (by omega : p = 0 ∨ p = 1 ∨ p = 2 ∨ p = 3) with rfl | rfl | rfl | rfl
  · refine g_iload_n (i := 0) hX dX10_lastOf_0 rfl rfl ?_
    refine g_if_ne (tgt := 9) hX dX10_lastOf_1 (by decide) (fun h9 => absurd (rfl) h9) (fun _ => ?_)
    refine g_bipush hX dX10_lastOf_4 bp9 ?_
    refine g_goto (tgt := 31) hX dX10_lastOf_6 (by decide) ?_
    refine g_iret (st := []) hX hE rfl dX10_lastOf_31 (⟨rfl, rfl⟩)
  · refine g_iload_n (i := 0) hX dX10_lastOf_0 rfl rfl ?_
    refine g_if_ne (tgt := 9) hX dX10_lastOf_1 (by decide) (fun _ => ?_) (fun h9 => absurd h9 ((by decide)))
    refine g_iload_n (i := 0) hX dX10_lastOf_9 rfl rfl ?_
    refine g_iconst hX dX10_lastOf_10 ic1 ?_
    refine g_icmp_ne (tgt := 19) hX dX10_lastOf_11 (by decide) (fun h9 => absurd (rfl) h9) (fun _ => ?_)
    refine g_bipush hX dX10_lastOf_14 bp20 ?_
    refine g_goto (tgt := 31) hX dX10_lastOf_16 (by decide) ?_
    refine g_iret (st := []) hX hE rfl dX10_lastOf_31 (⟨rfl, rfl⟩)
  · refine g_iload_n (i := 0) hX dX10_lastOf_0 rfl rfl ?_
    refine g_if_ne (tgt := 9) hX dX10_lastOf_1 (by decide) (fun _ => ?_) (fun h9 => absurd h9 ((by decide)))
    refine g_iload_n (i := 0) hX dX10_lastOf_9 rfl rfl ?_
    refine g_iconst hX dX10_lastOf_10 ic1 ?_
    refine g_icmp_ne (tgt := 19) hX dX10_lastOf_11 (by decide) (fun _ => ?_) (fun h9 => absurd h9 ((by decide)))
    refine g_iload_n (i := 0) hX dX10_lastOf_19 rfl rfl ?_
    refine g_iconst hX dX10_lastOf_20 ic2 ?_
    refine g_icmp_ne (tgt := 29) hX dX10_lastOf_21 (by decide) (fun h9 => absurd (rfl) h9) (fun _ => ?_)
    refine g_bipush hX dX10_lastOf_24 bp39 ?_
    refine g_goto (tgt := 31) hX dX10_lastOf_26 (by decide) ?_
    refine g_iret (st := []) hX hE rfl dX10_lastOf_31 (⟨rfl, rfl⟩)
  · refine g_iload_n (i := 0) hX dX10_lastOf_0 rfl rfl ?_
    refine g_if_ne (tgt := 9) hX dX10_lastOf_1 (by decide) (fun _ => ?_) (fun h9 => absurd h9 ((by decide)))
    refine g_iload_n (i := 0) hX dX10_lastOf_9 rfl rfl ?_
    refine g_iconst hX dX10_lastOf_10 ic1 ?_
    refine g_icmp_ne (tgt := 19) hX dX10_lastOf_11 (by decide) (fun _ => ?_) (fun h9 => absurd h9 ((by decide)))
    refine g_iload_n (i := 0) hX dX10_lastOf_19 rfl rfl ?_
    refine g_iconst hX dX10_lastOf_20 ic2 ?_
    refine g_icmp_ne (tgt := 29) hX dX10_lastOf_21 (by decide) (fun _ => ?_) (fun h9 => absurd h9 ((by decide)))
    refine g_bipush hX dX10_lastOf_29 bp48 ?_
    refine g_iret (st := []) hX hE rfl dX10_lastOf_31 (⟨rfl, rfl⟩)
theorem c_firstSlot {Γ : GG} {S : St} {p : Nat} (hp : p < 4) : kX9_firstSlot Γ [.int (nI p)] S (rI (nI (wLo p)) S) := by
  refine oX9_firstSlot (fun X hX hE => ?_)
  rcases (by omega : p = 0 ∨ p = 1 ∨ p = 2 ∨ p = 3) with rfl | rfl | rfl | rfl
  · refine g_iload_n (i := 0) hX dX9_firstSlot_0 rfl rfl ?_
    refine g_iconst hX dX9_firstSlot_1 ic2 ?_
    refine g_icmp_ne (tgt := 9) hX dX9_firstSlot_2 (by decide) (fun _ => ?_) (fun h9 => absurd h9 ((by decide)))
    refine g_iconst hX dX9_firstSlot_9 ic0 ?_
    refine g_iret (st := []) hX hE rfl dX9_firstSlot_10 (⟨rfl, rfl⟩)
  · refine g_iload_n (i := 0) hX dX9_firstSlot_0 rfl rfl ?_
    refine g_iconst hX dX9_firstSlot_1 ic2 ?_
    refine g_icmp_ne (tgt := 9) hX dX9_firstSlot_2 (by decide) (fun _ => ?_) (fun h9 => absurd h9 ((by decide)))
    refine g_iconst hX dX9_firstSlot_9 ic0 ?_
    refine g_iret (st := []) hX hE rfl dX9_firstSlot_10 (⟨rfl, rfl⟩)
  · refine g_iload_n (i := 0) hX dX9_firstSlot_0 rfl rfl ?_
    refine g_iconst hX dX9_firstSlot_1 ic2 ?_
    refine g_icmp_ne (tgt := 9) hX dX9_firstSlot_2 (by decide) (fun h9 => absurd (rfl) h9) (fun _ => ?_)
    refine g_iconst hX dX9_firstSlot_5 ic1 ?_
    refine g_goto (tgt := 10) hX dX9_firstSlot_6 (by decide) ?_
    refine g_iret (st := []) hX hE rfl dX9_firstSlot_10 (⟨rfl, rfl⟩)
  · refine g_iload_n (i := 0) hX dX9_firstSlot_0 rfl rfl ?_
    refine g_iconst hX dX9_firstSlot_1 ic2 ?_
    refine g_icmp_ne (tgt := 9) hX dX9_firstSlot_2 (by decide) (fun _ => ?_) (fun h9 => absurd h9 ((by decide)))
    refine g_iconst hX dX9_firstSlot_9 ic0 ?_
    refine g_iret (st := []) hX hE rfl dX9_firstSlot_10 (⟨rfl, rfl⟩)
theorem c_lastSlot {Γ : GG} {S : St} {p : Nat} (hp : p < 4) : kX9_lastSlot Γ [.int (nI p)] S (rI (nI (wHi p - 1)) S) := by
  refine oX9_lastSlot (fun X hX hE => ?_)
  rcases (by omega : p = 0 ∨ p = 1 ∨ p = 2 ∨ p = 3) with rfl | rfl | rfl | rfl
  · refine g_iload_n (i := 0) hX dX9_lastSlot_0 rfl rfl ?_
    refine g_lookup (off := 33) (tgt := 34) hX dX9_lastSlot_1 (by decide) (by decide) (by decide) ?_
    refine g_bipush hX dX9_lastSlot_34 bp9 ?_
    refine g_iret (st := []) hX hE rfl dX9_lastSlot_36 (⟨rfl, rfl⟩)
  · refine g_iload_n (i := 0) hX dX9_lastSlot_0 rfl rfl ?_
    refine g_lookup (off := 27) (tgt := 28) hX dX9_lastSlot_1 (by decide) (by decide) (by decide) ?_
    refine g_bipush hX dX9_lastSlot_28 bp10 ?_
    refine g_iret (st := []) hX hE rfl dX9_lastSlot_30 (⟨rfl, rfl⟩)
  · refine g_iload_n (i := 0) hX dX9_lastSlot_0 rfl rfl ?_
    refine g_lookup (off := 33) (tgt := 34) hX dX9_lastSlot_1 (by decide) (by decide) (by decide) ?_
    refine g_bipush hX dX9_lastSlot_34 bp9 ?_
    refine g_iret (st := []) hX hE rfl dX9_lastSlot_36 (⟨rfl, rfl⟩)
  · refine g_iload_n (i := 0) hX dX9_lastSlot_0 rfl rfl ?_
    refine g_lookup (off := 30) (tgt := 31) hX dX9_lastSlot_1 (by decide) (by decide) (by decide) ?_
    refine g_bipush hX dX9_lastSlot_31 bp8 ?_
    refine g_iret (st := []) hX hE rfl dX9_lastSlot_33 (⟨rfl, rfl⟩)
theorem wHi_le : ∀ p, p < 4 → wHi p ≤ 11 ∧ 1 ≤ wHi p ∧ wLo p ≤ 1 := by decide
theorem wAt : ∀ p, p < 4 → ∀ i, i < wHi p → wOff p + i ≤ lOf p ∧ wOff p + i < 49 := by decide
theorem wAt' : ∀ p, p < 4 → ∀ i, i < 11 → ¬ i < wHi p → lOf p < wOff p + i := by decide
theorem wOff_fOf : ∀ p, p < 4 → p ≠ 2 → fOf p = wOff p := by decide
theorem waa : ∀ p, p < 4 → ([36, 37, 38, 39] : List Nat)[p]? = some (36 + p) := by decide
theorem raa : ∀ p, p < 4 → ([40, 41, 42, 43] : List Nat)[p]? = some (40 + p) := by decide
theorem iaW : ∀ p, p < 4 → IsArr (36 + p) 11 := by unfold IsArr; decide
theorem iaRd : ∀ p, p < 4 → IsArr (40 + p) 11 := by unfold IsArr; decide
theorem weightR_at {Γ : GG} {X : XT} {S : St} {p : Nat} {x2 : Int32} (hX : Cx Γ RX10 cX10_weight 4 (some .int) 2 45 X) (hp : p < 4)
    (k : G Γ X S 44 [(0, .ref (Γ.1 67)), (1, .int (nI p)), (2, .int x2), (3, .int (nI (wOff p) + x2))] [.long (if p = 2 then 1 else 0), .long x2.toInt64]) : G Γ X S 15 [(0, .ref (Γ.1 67)), (1, .int (nI p)), (2, .int x2)] [] := by
  by_cases e : p = 2
  · subst e
    refine g_iload_n (i := 1) hX dX10_weight_15 rfl rfl ?_
    refine g_iconst hX dX10_weight_16 ic2 ?_
    refine g_icmp_ne (tgt := 25) hX dX10_weight_17 (by decide) (fun h9 => absurd (rfl) h9) (fun _ => ?_)
    refine g_bipush hX dX10_weight_20 bp30 ?_
    refine g_goto (tgt := 29) hX dX10_weight_22 (by decide) ?_
    refine g_iload_n (i := 2) hX dX10_weight_29 rfl rfl ?_
    refine g_iadd hX dX10_weight_30 ?_
    refine g_istore_n (i := 3) hX dX10_weight_31 rfl (by decide) rfl ?_
    refine g_iload_n (i := 2) hX dX10_weight_32 rfl rfl ?_
    refine g_i2l hX dX10_weight_33 ?_
    refine g_iload_n (i := 1) hX dX10_weight_34 rfl rfl ?_
    refine g_iconst hX dX10_weight_35 ic2 ?_
    refine g_icmp_ne (tgt := 43) hX dX10_weight_36 (by decide) (fun h9 => absurd (rfl) h9) (fun _ => ?_)
    refine g_lconst (v := 1) hX dX10_weight_39 (by decide) ?_
    refine g_goto (tgt := 44) hX dX10_weight_40 (by decide) ?_
    exact k
  · rw [if_neg e] at k
    have hne : ¬ nI p = (2 : Int32) := nI_ne (b := 2) (by omega) (by decide) e
    have hfo := c_firstOf (Γ := Γ) (S := S) hp
    rw [wOff_fOf p hp e] at hfo
    refine g_iload_n (i := 1) hX dX10_weight_15 rfl rfl ?_
    refine g_iconst hX dX10_weight_16 ic2 ?_
    refine g_icmp_ne (tgt := 25) hX dX10_weight_17 (by decide) (fun _ => ?_) (fun h9 => absurd h9 (hne))
    refine g_iload_n (i := 1) hX dX10_weight_25 rfl rfl ?_
    refine sX10_205 hX ⟨Nat.le_of_ble_eq_true rfl, Nat.le_of_ble_eq_true rfl⟩ (Nat.le_of_ble_eq_true rfl) dX10_weight_26 (hfo) ?_
    refine g_iload_n (i := 2) hX dX10_weight_29 rfl rfl ?_
    refine g_iadd hX dX10_weight_30 ?_
    refine g_istore_n (i := 3) hX dX10_weight_31 rfl (by decide) rfl ?_
    refine g_iload_n (i := 2) hX dX10_weight_32 rfl rfl ?_
    refine g_i2l hX dX10_weight_33 ?_
    refine g_iload_n (i := 1) hX dX10_weight_34 rfl rfl ?_
    refine g_iconst hX dX10_weight_35 ic2 ?_
    refine g_icmp_ne (tgt := 43) hX dX10_weight_36 (by decide) (fun _ => ?_) (fun h9 => absurd h9 (hne))
    refine g_lconst (v := 0) hX dX10_weight_43 (by decide) ?_
    exact k
theorem step_weight {Γ : GG} (x1 x2 : Int32) : Step (fun S P => kX9_weight Γ [.ref (Γ.1 48), .int x1, .int x2] S P) (fun S P => kX10_weight Γ [.ref (Γ.1 67), .int x1, .int x2] S P) := by
  intro S hR
  by_cases h1 : inB x1 4
  case neg =>
    refine ⟨-1000001, fun S1 => S1 = S, ?_, ?_⟩
    · refine oX9_weight (fun X hX hE => ?_)
      refine g_iload_n (i := 1) hX dX9_weight_0 rfl rfl ?_
      refine g_iconst hX dX9_weight_1 ic4 ?_
      refine sX9_96 hX ⟨Nat.le_of_ble_eq_true rfl, Nat.le_of_ble_eq_true rfl⟩ (Nat.le_of_ble_eq_true rfl) dX9_weight_2 (isB_f (n := 4) (by decide) h1) ?_
      refine g_if_eq (tgt := 24) hX dX9_weight_5 (by decide) (fun _ => ?_) (fun h9 => absurd (rfl) h9)
      refine g_ldc hX ccX9_100 dX9_weight_24 ?_
      refine g_iret (st := []) hX hE rfl dX9_weight_26 (⟨_, rfl, rfl, rfl⟩)
    · rintro S1 rfl
      refine oX10_weight (fun X hX hE => ?_)
      refine g_aload_n (i := 0) hX dX10_weight_0 rfl rfl ?_
      refine g_iconst hX dX10_weight_1 ic0 ?_
      refine pX10_78 hX dX10_weight_2 ?_
      refine g_iload_n (i := 1) hX dX10_weight_5 rfl rfl ?_
      refine sX10_202 hX ⟨Nat.le_of_ble_eq_true rfl, Nat.le_of_ble_eq_true rfl⟩ (Nat.le_of_ble_eq_true rfl) dX10_weight_6 (c_isPart_f h1) ?_
      refine g_if_ne (tgt := 15) hX dX10_weight_9 (by decide) (fun h9 => absurd (rfl) h9) (fun _ => ?_)
      refine g_ldc hX ccX10_97 dX10_weight_12 ?_
      refine g_iret (st := []) hX hE rfl dX10_weight_14 (⟨_, rfl, rfl, hR.thrown⟩)
  obtain ⟨p, hp, rfl⟩ := h1
  have hw := wHi_le p hp
  have l10 : (10 : Int64).toInt = 10 := by decide
  have llo : (if p = 2 then (1 : Int64) else 0).toInt = wLo p := by
    rcases (by omega : p = 0 ∨ p = 1 ∨ p = 2 ∨ p = 3) with rfl | rfl | rfl | rfl <;> rfl
  by_cases h2 : (wLo p : Int) ≤ x2.toInt ∧ x2.toInt < wHi p
  case neg =>
    refine ⟨-1000001, fun S1 => S1 = S, ?_, ?_⟩
    · refine oX9_weight (fun X hX hE => ?_)
      by_cases q : x2 < nI (wLo p)
      · refine g_iload_n (i := 1) hX dX9_weight_0 rfl rfl ?_
        refine g_iconst hX dX9_weight_1 ic4 ?_
        refine sX9_96 hX ⟨Nat.le_of_ble_eq_true rfl, Nat.le_of_ble_eq_true rfl⟩ (Nat.le_of_ble_eq_true rfl) dX9_weight_2 (isB_t (n := 4) hp (by decide)) ?_
        refine g_if_eq (tgt := 24) hX dX9_weight_5 (by decide) (fun h9 => absurd h9 ((by decide))) (fun _ => ?_)
        refine g_iload_n (i := 2) hX dX9_weight_8 rfl rfl ?_
        refine g_iload_n (i := 1) hX dX9_weight_9 rfl rfl ?_
        refine sX9_198 hX ⟨Nat.le_of_ble_eq_true rfl, Nat.le_of_ble_eq_true rfl⟩ (Nat.le_of_ble_eq_true rfl) dX9_weight_10 (c_firstSlot hp) ?_
        refine g_icmp_lt (tgt := 24) hX dX9_weight_13 (by decide) (fun _ => ?_) (fun h9 => absurd (q) h9)
        refine g_ldc hX ccX9_100 dX9_weight_24 ?_
        refine g_iret (st := []) hX hE rfl dX9_weight_26 (⟨_, rfl, rfl, rfl⟩)
      · refine g_iload_n (i := 1) hX dX9_weight_0 rfl rfl ?_
        refine g_iconst hX dX9_weight_1 ic4 ?_
        refine sX9_96 hX ⟨Nat.le_of_ble_eq_true rfl, Nat.le_of_ble_eq_true rfl⟩ (Nat.le_of_ble_eq_true rfl) dX9_weight_2 (isB_t (n := 4) hp (by decide)) ?_
        refine g_if_eq (tgt := 24) hX dX9_weight_5 (by decide) (fun h9 => absurd h9 ((by decide))) (fun _ => ?_)
        refine g_iload_n (i := 2) hX dX9_weight_8 rfl rfl ?_
        refine g_iload_n (i := 1) hX dX9_weight_9 rfl rfl ?_
        refine sX9_198 hX ⟨Nat.le_of_ble_eq_true rfl, Nat.le_of_ble_eq_true rfl⟩ (Nat.le_of_ble_eq_true rfl) dX9_weight_10 (c_firstSlot hp) ?_
        refine g_icmp_lt (tgt := 24) hX dX9_weight_13 (by decide) (fun h9 => absurd h9 (q)) (fun _ => ?_)
        refine g_iload_n (i := 2) hX dX9_weight_16 rfl rfl ?_
        refine g_iload_n (i := 1) hX dX9_weight_17 rfl rfl ?_
        refine sX9_201 hX ⟨Nat.le_of_ble_eq_true rfl, Nat.le_of_ble_eq_true rfl⟩ (Nat.le_of_ble_eq_true rfl) dX9_weight_18 (c_lastSlot hp) ?_
        refine g_icmp_le (tgt := 27) hX dX9_weight_21 (by decide) (fun h9 => absurd h9 ((by rw [i_lt, nI_toInt (by omega)] at q; rw [i_le, nI_toInt (by omega)]; omega))) (fun _ => ?_)
        refine g_ldc hX ccX9_100 dX9_weight_24 ?_
        refine g_iret (st := []) hX hE rfl dX9_weight_26 (⟨_, rfl, rfl, rfl⟩)
    · rintro S1 rfl
      refine oX10_weight (fun X hX hE => ?_)
      refine g_aload_n (i := 0) hX dX10_weight_0 rfl rfl ?_
      refine g_iconst hX dX10_weight_1 ic0 ?_
      refine pX10_78 hX dX10_weight_2 ?_
      refine g_iload_n (i := 1) hX dX10_weight_5 rfl rfl ?_
      refine sX10_202 hX ⟨Nat.le_of_ble_eq_true rfl, Nat.le_of_ble_eq_true rfl⟩ (Nat.le_of_ble_eq_true rfl) dX10_weight_6 (c_isPart_t hp) ?_
      refine g_if_ne (tgt := 15) hX dX10_weight_9 (by decide) (fun _ => ?_) (fun h9 => absurd h9 ((by decide)))
      refine weightR_at hX hp ?_
      by_cases q : (wLo p : Int) ≤ x2.toInt ∧ x2.toInt ≤ 10
      · have hx2 : x2 = nI x2.toInt.toNat := nI_nat (by omega)
        have hc := wAt' p hp x2.toInt.toNat (by omega) (by omega)
        refine g_ldc2_w hX ccX10_123 dX10_weight_44 ?_
        refine sX10_87 hX ⟨Nat.le_of_ble_eq_true rfl, Nat.le_of_ble_eq_true rfl⟩ (Nat.le_of_ble_eq_true rfl) dX10_weight_47 (c_inI_t (by rw [llo]; exact q.1) (by rw [l10]; exact q.2)) ?_
        refine g_if_eq (tgt := 70) hX dX10_weight_50 (by decide) (fun h9 => absurd h9 ((by decide))) (fun _ => ?_)
        refine g_iload_n (i := 3) hX dX10_weight_53 rfl rfl ?_
        refine g_iload_n (i := 1) hX dX10_weight_54 rfl rfl ?_
        refine sX10_208 hX ⟨Nat.le_of_ble_eq_true rfl, Nat.le_of_ble_eq_true rfl⟩ (Nat.le_of_ble_eq_true rfl) dX10_weight_55 (c_lastOf hp) ?_
        refine g_icmp_gt (tgt := 70) hX dX10_weight_58 (by decide) (fun _ => ?_) (fun h9 => absurd ((by rw [hx2, nI_add2]; exact nI_lt hc (by have := (by decide : ∀ p, p < 4 → wOff p ≤ 40) p hp; omega))) h9)
        refine g_ldc hX ccX10_97 dX10_weight_70 ?_
        refine g_iret (st := []) hX hE rfl dX10_weight_72 (⟨_, rfl, rfl, hR.thrown⟩)
      · refine g_ldc2_w hX ccX10_123 dX10_weight_44 ?_
        refine sX10_87 hX ⟨Nat.le_of_ble_eq_true rfl, Nat.le_of_ble_eq_true rfl⟩ (Nat.le_of_ble_eq_true rfl) dX10_weight_47 (c_inI_f (by rw [llo, l10]; exact q)) ?_
        refine g_if_eq (tgt := 70) hX dX10_weight_50 (by decide) (fun _ => ?_) (fun h9 => absurd (rfl) h9)
        refine g_ldc hX ccX10_97 dX10_weight_70 ?_
        refine g_iret (st := []) hX hE rfl dX10_weight_72 (⟨_, rfl, rfl, hR.thrown⟩)
  obtain ⟨i, hi, rfl⟩ : ∃ i : Nat, i = x2.toInt.toNat ∧ x2 = nI i := ⟨_, rfl, nI_nat (by omega)⟩
  rw [nI_toInt (by omega)] at h2
  have hi1 : wLo p ≤ i := by omega
  have hi2 : i < wHi p := by omega
  clear hi
  obtain ⟨w, w1, w2, w3, w4⟩ := hR.2.2.2.1
  refine ⟨nI (w p i), fun S1 => S1 = S, ?_, ?_⟩
  · refine oX9_weight (fun X hX hE => ?_)
    have hia := iaW p hp
    refine g_iload_n (i := 1) hX dX9_weight_0 rfl rfl ?_
    refine g_iconst hX dX9_weight_1 ic4 ?_
    refine sX9_96 hX ⟨Nat.le_of_ble_eq_true rfl, Nat.le_of_ble_eq_true rfl⟩ (Nat.le_of_ble_eq_true rfl) dX9_weight_2 (isB_t (n := 4) hp (by decide)) ?_
    refine g_if_eq (tgt := 24) hX dX9_weight_5 (by decide) (fun h9 => absurd h9 ((by decide))) (fun _ => ?_)
    refine g_iload_n (i := 2) hX dX9_weight_8 rfl rfl ?_
    refine g_iload_n (i := 1) hX dX9_weight_9 rfl rfl ?_
    refine sX9_198 hX ⟨Nat.le_of_ble_eq_true rfl, Nat.le_of_ble_eq_true rfl⟩ (Nat.le_of_ble_eq_true rfl) dX9_weight_10 (c_firstSlot hp) ?_
    refine g_icmp_lt (tgt := 24) hX dX9_weight_13 (by decide) (fun h9 => absurd h9 (nI_nlt hi1 (by omega))) (fun _ => ?_)
    refine g_iload_n (i := 2) hX dX9_weight_16 rfl rfl ?_
    refine g_iload_n (i := 1) hX dX9_weight_17 rfl rfl ?_
    refine sX9_201 hX ⟨Nat.le_of_ble_eq_true rfl, Nat.le_of_ble_eq_true rfl⟩ (Nat.le_of_ble_eq_true rfl) dX9_weight_18 (c_lastSlot hp) ?_
    refine g_icmp_le (tgt := 27) hX dX9_weight_21 (by decide) (fun _ => ?_) (fun h9 => absurd (nI_le (by omega) (by omega)) h9)
    refine g_aload_n (i := 0) hX dX9_weight_27 rfl rfl ?_
    refine fX9_38 hX dX9_weight_28 ?_
    refine fX9_177 hX dX9_weight_31 ?_
    refine g_iload_n (i := 1) hX dX9_weight_34 rfl rfl ?_
    refine g_aaloadN hX (show 54 < NC by decide) (Or.inr rfl) (show lay 54 = (3, 4, [36, 37, 38, 39]) by decide) rfl (hp) (by decide) (waa p hp) dX9_weight_35 ?_
    refine g_iload_n (i := 2) hX dX9_weight_36 rfl rfl ?_
    refine g_ialoadN hX (hia) rfl ((show i < 11 by omega)) (by first | decide | assumption | omega) dX9_weight_37 ?_
    refine g_iret (st := []) hX hE rfl dX9_weight_38 (⟨_, rfl, (w1 p hp i (by omega)).1, rfl⟩)
  · rintro S1 rfl
    refine oX10_weight (fun X hX hE => ?_)
    have hc := wAt p hp i hi2
    refine g_aload_n (i := 0) hX dX10_weight_0 rfl rfl ?_
    refine g_iconst hX dX10_weight_1 ic0 ?_
    refine pX10_78 hX dX10_weight_2 ?_
    refine g_iload_n (i := 1) hX dX10_weight_5 rfl rfl ?_
    refine sX10_202 hX ⟨Nat.le_of_ble_eq_true rfl, Nat.le_of_ble_eq_true rfl⟩ (Nat.le_of_ble_eq_true rfl) dX10_weight_6 (c_isPart_t hp) ?_
    refine g_if_ne (tgt := 15) hX dX10_weight_9 (by decide) (fun _ => ?_) (fun h9 => absurd h9 ((by decide)))
    refine weightR_at hX hp ?_
    refine g_ldc2_w hX ccX10_123 dX10_weight_44 ?_
    refine sX10_87 hX ⟨Nat.le_of_ble_eq_true rfl, Nat.le_of_ble_eq_true rfl⟩ (Nat.le_of_ble_eq_true rfl) dX10_weight_47 (c_inI_t (by rw [llo, nI_toInt (by omega)]; omega) (by rw [l10, nI_toInt (by omega)]; omega)) ?_
    refine g_if_eq (tgt := 70) hX dX10_weight_50 (by decide) (fun h9 => absurd h9 ((by decide))) (fun _ => ?_)
    refine g_iload_n (i := 3) hX dX10_weight_53 rfl rfl ?_
    refine g_iload_n (i := 1) hX dX10_weight_54 rfl rfl ?_
    refine sX10_208 hX ⟨Nat.le_of_ble_eq_true rfl, Nat.le_of_ble_eq_true rfl⟩ (Nat.le_of_ble_eq_true rfl) dX10_weight_55 (c_lastOf hp) ?_
    refine g_icmp_gt (tgt := 70) hX dX10_weight_58 (by decide) (fun h9 => absurd h9 ((by rw [nI_add2]; exact nI_nlt hc.1 (by have := (by decide : ∀ p, p < 4 → lOf p ≤ 48) p hp; omega)))) (fun _ => ?_)
    refine g_aload_n (i := 0) hX dX10_weight_61 rfl rfl ?_
    refine fX10_31 hX dX10_weight_62 ?_
    refine g_iload_n (i := 3) hX dX10_weight_65 rfl rfl ?_
    refine g_ialoadN hX (ia75) (nI_add2 _ _) (hc.2) (by first | decide | assumption | omega) dX10_weight_66 ?_
    refine g_goto (tgt := 72) hX dX10_weight_67 (by decide) ?_
    refine g_iret (st := []) hX hE rfl dX10_weight_72 (⟨_, rfl, w2 p hp i hi1 hi2, hR.thrown⟩)
/-- sums of weights -/
def sumW (g : Nat → Nat) : Nat → Nat
  | 0 => 0
  | n + 1 => sumW g n + g n
theorem sumN_nI {f : Nat → Int32} {g : Nat → Nat} : ∀ n, (∀ j, j < n → f j = nI (g j)) → sumN f n = nI (sumW g n) := by
  intro n
  induction n with
  | zero => intro _; rfl
  | succ n ih => intro h; simp only [sumN, sumW]; rw [ih (fun j hj => h j (by omega)), h n (by omega), nI_add2]
theorem sumW_congr {g h : Nat → Nat} : ∀ n, (∀ j, j < n → g j = h j) → sumW g n = sumW h n := by
  intro n
  induction n with
  | zero => intro _; rfl
  | succ n ih => intro q; simp only [sumW]; rw [ih (fun j hj => q j (by omega)), q n (by omega)]
theorem sumW_le {g : Nat → Nat} {m : Nat} : ∀ n, (∀ j, j < n → g j ≤ m) → sumW g n ≤ n * m := by
  intro n
  induction n with
  | zero => intro _; exact Nat.zero_le _
  | succ n ih => intro q; simp only [sumW]; have := ih (fun j hj => q j (by omega)); have := q n (by omega); rw [Nat.succ_mul]; omega
theorem nz_sum {f : Nat → Int32} {g : Nat → Nat} : ∀ n, (∀ j, j < n → f j = nI (g j) ∧ g j ≤ 99) → (nzN f n = 0 ↔ sumW g n = 0) := by
  intro n
  induction n with
  | zero => intro _; exact ⟨fun _ => rfl, fun _ => rfl⟩
  | succ n ih =>
    intro q
    have h1 := ih (fun j hj => q j (by omega))
    obtain ⟨h2, h3⟩ := q n (by omega)
    simp only [nzN, sumW]
    by_cases e : g n = 0
    · rw [h2, e, if_pos nI_0]; omega
    · rw [h2, if_neg (nI_ne0 (by omega) (by omega))]; omega
theorem c_sumOfR {Γ : GG} {S : St} {a len : Nat} {e : Int32} (he : e.toInt = (a + len : Nat) - 1) (hl : a + len ≤ 49) : kX10_sumOf Γ [.ref (Γ.1 67), .int (nI a), .int e] S (rI (sumN (fun j => S.1 75 (a + j)) len) S) := by
  refine oX10_sumOf (fun X hX hE => ?_)
  have loop : ∀ d i, i + d = len → G Γ X S 5 [(0, .ref (Γ.1 67)), (1, .int (nI a)), (2, .int e), (3, .int (sumN (fun j => S.1 75 (a + j)) i)), (4, .int (nI (a + i)))] [] := by
    intro d
    induction d with
    | zero =>
      intro i hi
      obtain rfl : i = len := by omega
      refine g_iload hX dX10_sumOf_5 rfl ?_
      refine g_iload_n (i := 2) hX dX10_sumOf_7 rfl rfl ?_
      refine g_icmp_gt (tgt := 27) hX dX10_sumOf_8 (by decide) (fun _ => ?_) (fun h9 => absurd ((by rw [i_lt, he, nI_toInt (by omega)]; omega)) h9)
      refine g_iload_n (i := 3) hX dX10_sumOf_27 rfl rfl ?_
      refine g_iret (st := []) hX hE rfl dX10_sumOf_28 (⟨rfl, rfl⟩)
    | succ d ih =>
      intro i hi
      refine g_iload hX dX10_sumOf_5 rfl ?_
      refine g_iload_n (i := 2) hX dX10_sumOf_7 rfl rfl ?_
      refine g_icmp_gt (tgt := 27) hX dX10_sumOf_8 (by decide) (fun h9 => absurd h9 ((by rw [i_lt, he, nI_toInt (by omega)]; omega))) (fun _ => ?_)
      refine g_iload_n (i := 3) hX dX10_sumOf_11 rfl rfl ?_
      refine g_aload_n (i := 0) hX dX10_sumOf_12 rfl rfl ?_
      refine fX10_31 hX dX10_sumOf_13 ?_
      refine g_iload hX dX10_sumOf_16 rfl ?_
      refine g_ialoadN hX (ia75) rfl ((show a + i < 49 by omega)) (by first | decide | assumption | omega) dX10_sumOf_18 ?_
      refine g_iadd hX dX10_sumOf_19 ?_
      refine g_istore_n (i := 3) hX dX10_sumOf_20 rfl (by decide) rfl ?_
      refine g_iinc hX dX10_sumOf_21 rfl ic1 (by decide) rfl ?_
      refine g_goto (tgt := 5) hX dX10_sumOf_24 (by decide) ?_
      rw [nI_1]
      exact ih (i + 1) (by omega)
  refine g_iconst hX dX10_sumOf_0 ic0 ?_
  refine g_istore_n (i := 3) hX dX10_sumOf_1 rfl (by decide) rfl ?_
  refine g_iload_n (i := 1) hX dX10_sumOf_2 rfl rfl ?_
  refine g_istore hX dX10_sumOf_3 (by decide) rfl ?_
  exact loop len 0 (by omega)
theorem lOf_cnt : ∀ p, p < 4 → (nI (lOf p)).toInt = ((fOf p + (lOf p + 1 - fOf p) : Nat) : Int) - 1 ∧ fOf p + (lOf p + 1 - fOf p) ≤ 49 := by decide
theorem c_toldSum {Γ : GG} {S : St} {p : Nat} {w : Nat → Nat → Nat} (hp : p < 4) (w2 : ∀ p, p < 4 → ∀ i, wLo p ≤ i → i < wHi p → S.1 75 (wOff p + i) = nI (w p i)) (w3 : ∀ p, p < 4 → ∀ i, i < 11 → ¬ (wLo p ≤ i ∧ i < wHi p) → w p i = 0) : kX10_toldSum Γ [.ref (Γ.1 67), .int (nI p)] S (rI (nI (sumW (w p) 11)) S) := by
  have key : sumN (fun j => S.1 75 (fOf p + j)) (lOf p + 1 - fOf p) = nI (sumW (w p) 11) := by
    rcases (by omega : p = 0 ∨ p = 1 ∨ p = 2 ∨ p = 3) with rfl | rfl | rfl | rfl
    · refine (sumN_nI (g := w 0) 10 (fun j hj => w2 0 (by decide) j (Nat.zero_le _) hj)).trans ?_
      have := w3 0 (by decide) 10 (by decide) (by decide)
      show nI (sumW (w 0) 10) = nI (sumW (w 0) 10 + w 0 10)
      rw [this, Nat.add_zero]
    · exact sumN_nI (g := w 1) _ (fun j hj => w2 1 (by decide) j (Nat.zero_le _) hj)
    · rw [sumN_nI (g := fun j => w 2 (1 + j)) _ (fun j hj => by have h := w2 2 (by decide) (1 + j) (by show 1 ≤ 1 + j; omega) (by have h9 : j < 9 := hj; show 1 + j < 10; omega); show S.1 75 (31 + j) = _; rw [show 31 + j = 30 + (1 + j) by omega]; exact h)]
      have h0 := w3 2 (by decide) 0 (by decide) (by decide)
      have h10 := w3 2 (by decide) 10 (by decide) (by decide)
      show nI (sumW (fun j => w 2 (1 + j)) 9) = nI (sumW (w 2) 11)
      congr 1
      simp only [sumW, Nat.reduceAdd]
      omega
    · refine (sumN_nI (g := w 3) 9 (fun j hj => w2 3 (by decide) j (Nat.zero_le _) hj)).trans ?_
      have h9 := w3 3 (by decide) 9 (by decide) (by decide)
      have h10 := w3 3 (by decide) 10 (by decide) (by decide)
      show nI (sumW (w 3) 9) = nI (sumW (w 3) 9 + w 3 9 + w 3 10)
      rw [h9, h10]; rfl
  have hl := lOf_cnt p hp
  refine oX10_toldSum (fun X hX hE => ?_)
  refine g_aload_n (i := 0) hX dX10_toldSum_0 rfl rfl ?_
  refine g_iload_n (i := 1) hX dX10_toldSum_1 rfl rfl ?_
  refine sX10_205 hX ⟨Nat.le_of_ble_eq_true rfl, Nat.le_of_ble_eq_true rfl⟩ (Nat.le_of_ble_eq_true rfl) dX10_toldSum_2 (c_firstOf hp) ?_
  refine g_iload_n (i := 1) hX dX10_toldSum_5 rfl rfl ?_
  refine sX10_208 hX ⟨Nat.le_of_ble_eq_true rfl, Nat.le_of_ble_eq_true rfl⟩ (Nat.le_of_ble_eq_true rfl) dX10_toldSum_6 (c_lastOf hp) ?_
  refine sX10_222 hX ⟨Nat.le_of_ble_eq_true rfl, Nat.le_of_ble_eq_true rfl⟩ (Nat.le_of_ble_eq_true rfl) dX10_toldSum_9 (c_sumOfR hl.1 hl.2) ?_
  refine g_iret (st := []) hX hE rfl dX10_toldSum_12 (⟨by rw [key], rfl⟩)
/-- the kind of a part -/
def kdV (o : Int32) (w : Nat → Nat → Nat) (p : Nat) : Nat := if ¬ o = 0 ∨ sumW (w p) 11 = 0 then 5 else p + 1
theorem nz_le (f : Nat → Int32) : ∀ n, nzN f n ≤ n := by
  intro n
  induction n with
  | zero => exact Nat.le_refl 0
  | succ n ih => simp only [nzN]; split <;> omega
theorem nz_lt (f : Nat → Int32) (n : Nat) (h : n < 2 ^ 31 := by decide) : nzN f n < 2 ^ 31 := Nat.lt_of_le_of_lt (nz_le f n) h
theorem c_kindOf {Γ : GG} {S : St} {p : Nat} {w : Nat → Nat → Nat} (hp : p < 4) (w1 : ∀ p, p < 4 → ∀ i, i < 11 → S.1 (36 + p) i = nI (w p i) ∧ w p i ≤ 99) : kX5_kindOf Γ [.ref (Γ.1 53), .int (nI p)] S (rI (nI (kdV (S.1 55 p) w p)) S) := by
  refine oX5_kindOf (fun X hX hE => ?_)
  have hia := iaW p hp
  have hz := nz_sum 11 (w1 p hp)
  by_cases ho : S.1 55 p = 0
  · by_cases hs : sumW (w p) 11 = 0
    · refine g_aload_n (i := 0) hX dX5_kindOf_0 rfl rfl ?_
      refine fX5_16 hX dX5_kindOf_1 ?_
      refine g_iload_n (i := 1) hX dX5_kindOf_4 rfl rfl ?_
      refine g_baloadN hX (show 55 < NC by decide) (show lay 55 = (1, 4, []) by decide) rfl (hp) (by decide) dX5_kindOf_5 ?_
      refine g_if_ne (tgt := 21) hX dX5_kindOf_6 (by decide) (fun h9 => absurd (ho) h9) (fun _ => ?_)
      refine g_aload_n (i := 0) hX dX5_kindOf_9 rfl rfl ?_
      refine fX5_11 hX dX5_kindOf_10 ?_
      refine g_iload_n (i := 1) hX dX5_kindOf_13 rfl rfl ?_
      refine g_aaloadN hX (show 54 < NC by decide) (Or.inr rfl) (show lay 54 = (3, 4, [36, 37, 38, 39]) by decide) rfl (hp) (by decide) (waa p hp) dX5_kindOf_14 ?_
      refine sX5_24 hX ⟨Nat.le_of_ble_eq_true rfl, Nat.le_of_ble_eq_true rfl⟩ (Nat.le_of_ble_eq_true rfl) dX5_kindOf_15 (c_nz hia (by decide)) ?_
      refine g_if_ne (tgt := 25) hX dX5_kindOf_18 (by decide) (fun h9 => absurd ((by rw [hz.mpr hs]; rfl)) h9) (fun _ => ?_)
      refine g_iconst hX dX5_kindOf_21 ic5 ?_
      refine g_goto (tgt := 28) hX dX5_kindOf_22 (by decide) ?_
      refine g_iret (st := []) hX hE rfl dX5_kindOf_28 (⟨by rw [kdV, if_pos (Or.inr hs)]; rfl, rfl⟩)
    · refine g_aload_n (i := 0) hX dX5_kindOf_0 rfl rfl ?_
      refine fX5_16 hX dX5_kindOf_1 ?_
      refine g_iload_n (i := 1) hX dX5_kindOf_4 rfl rfl ?_
      refine g_baloadN hX (show 55 < NC by decide) (show lay 55 = (1, 4, []) by decide) rfl (hp) (by decide) dX5_kindOf_5 ?_
      refine g_if_ne (tgt := 21) hX dX5_kindOf_6 (by decide) (fun h9 => absurd (ho) h9) (fun _ => ?_)
      refine g_aload_n (i := 0) hX dX5_kindOf_9 rfl rfl ?_
      refine fX5_11 hX dX5_kindOf_10 ?_
      refine g_iload_n (i := 1) hX dX5_kindOf_13 rfl rfl ?_
      refine g_aaloadN hX (show 54 < NC by decide) (Or.inr rfl) (show lay 54 = (3, 4, [36, 37, 38, 39]) by decide) rfl (hp) (by decide) (waa p hp) dX5_kindOf_14 ?_
      refine sX5_24 hX ⟨Nat.le_of_ble_eq_true rfl, Nat.le_of_ble_eq_true rfl⟩ (Nat.le_of_ble_eq_true rfl) dX5_kindOf_15 (c_nz hia (by decide)) ?_
      refine g_if_ne (tgt := 25) hX dX5_kindOf_18 (by decide) (fun _ => ?_) (fun h9 => absurd h9 ((nI_ne0 (Nat.pos_of_ne_zero (fun q => hs (hz.mp q))) (nz_lt _ _))))
      refine g_iload_n (i := 1) hX dX5_kindOf_25 rfl rfl ?_
      refine g_iconst hX dX5_kindOf_26 ic1 ?_
      refine g_iadd hX dX5_kindOf_27 ?_
      refine g_iret (st := []) hX hE rfl dX5_kindOf_28 (⟨?_, rfl⟩)
      rw [kdV, if_neg (by rintro (q | q); exact q ho; exact hs q), nI_1]
  · refine g_aload_n (i := 0) hX dX5_kindOf_0 rfl rfl ?_
    refine fX5_16 hX dX5_kindOf_1 ?_
    refine g_iload_n (i := 1) hX dX5_kindOf_4 rfl rfl ?_
    refine g_baloadN hX (show 55 < NC by decide) (show lay 55 = (1, 4, []) by decide) rfl (hp) (by decide) dX5_kindOf_5 ?_
    refine g_if_ne (tgt := 21) hX dX5_kindOf_6 (by decide) (fun _ => ?_) (fun h9 => absurd h9 (ho))
    refine g_iconst hX dX5_kindOf_21 ic5 ?_
    refine g_goto (tgt := 28) hX dX5_kindOf_22 (by decide) ?_
    refine g_iret (st := []) hX hE rfl dX5_kindOf_28 (⟨by rw [kdV, if_pos (Or.inl ho)]; rfl, rfl⟩)
theorem c_kindOfR {Γ : GG} {S : St} {p : Nat} {w : Nat → Nat → Nat} (hp : p < 4) (hw : ∀ p, p < 4 → ∀ i, i < 11 → w p i ≤ 99) (w2 : ∀ p, p < 4 → ∀ i, wLo p ≤ i → i < wHi p → S.1 75 (wOff p + i) = nI (w p i)) (w3 : ∀ p, p < 4 → ∀ i, i < 11 → ¬ (wLo p ≤ i ∧ i < wHi p) → w p i = 0) : kX10_kindOf Γ [.ref (Γ.1 67), .int (nI p)] S (rI (nI (kdV (S.1 77 p) w p)) S) := by
  refine oX10_kindOf (fun X hX hE => ?_)
  have hle := sumW_le 11 (hw p hp)
  by_cases ho : S.1 77 p = 0
  · by_cases hs : sumW (w p) 11 = 0
    · refine g_aload_n (i := 0) hX dX10_kindOf_0 rfl rfl ?_
      refine fX10_37 hX dX10_kindOf_1 ?_
      refine g_iload_n (i := 1) hX dX10_kindOf_4 rfl rfl ?_
      refine g_baloadN hX (show 77 < NC by decide) (show lay 77 = (1, 4, []) by decide) rfl (hp) (by decide) dX10_kindOf_5 ?_
      refine g_if_ne (tgt := 17) hX dX10_kindOf_6 (by decide) (fun h9 => absurd (ho) h9) (fun _ => ?_)
      refine g_aload_n (i := 0) hX dX10_kindOf_9 rfl rfl ?_
      refine g_iload_n (i := 1) hX dX10_kindOf_10 rfl rfl ?_
      refine sX10_290 hX ⟨Nat.le_of_ble_eq_true rfl, Nat.le_of_ble_eq_true rfl⟩ (Nat.le_of_ble_eq_true rfl) dX10_kindOf_11 (c_toldSum hp w2 w3) ?_
      refine g_if_ne (tgt := 21) hX dX10_kindOf_14 (by decide) (fun h9 => absurd ((by rw [hs]; rfl)) h9) (fun _ => ?_)
      refine g_iconst hX dX10_kindOf_17 ic5 ?_
      refine g_goto (tgt := 24) hX dX10_kindOf_18 (by decide) ?_
      refine g_iret (st := []) hX hE rfl dX10_kindOf_24 (⟨by rw [kdV, if_pos (Or.inr hs)]; rfl, rfl⟩)
    · refine g_aload_n (i := 0) hX dX10_kindOf_0 rfl rfl ?_
      refine fX10_37 hX dX10_kindOf_1 ?_
      refine g_iload_n (i := 1) hX dX10_kindOf_4 rfl rfl ?_
      refine g_baloadN hX (show 77 < NC by decide) (show lay 77 = (1, 4, []) by decide) rfl (hp) (by decide) dX10_kindOf_5 ?_
      refine g_if_ne (tgt := 17) hX dX10_kindOf_6 (by decide) (fun h9 => absurd (ho) h9) (fun _ => ?_)
      refine g_aload_n (i := 0) hX dX10_kindOf_9 rfl rfl ?_
      refine g_iload_n (i := 1) hX dX10_kindOf_10 rfl rfl ?_
      refine sX10_290 hX ⟨Nat.le_of_ble_eq_true rfl, Nat.le_of_ble_eq_true rfl⟩ (Nat.le_of_ble_eq_true rfl) dX10_kindOf_11 (c_toldSum hp w2 w3) ?_
      refine g_if_ne (tgt := 21) hX dX10_kindOf_14 (by decide) (fun _ => ?_) (fun h9 => absurd h9 ((nI_ne0 (by omega) (by omega))))
      refine g_iload_n (i := 1) hX dX10_kindOf_21 rfl rfl ?_
      refine g_iconst hX dX10_kindOf_22 ic1 ?_
      refine g_iadd hX dX10_kindOf_23 ?_
      refine g_iret (st := []) hX hE rfl dX10_kindOf_24 (⟨?_, rfl⟩)
      rw [kdV, if_neg (by rintro (q | q); exact q ho; exact hs q), nI_1]
  · refine g_aload_n (i := 0) hX dX10_kindOf_0 rfl rfl ?_
    refine fX10_37 hX dX10_kindOf_1 ?_
    refine g_iload_n (i := 1) hX dX10_kindOf_4 rfl rfl ?_
    refine g_baloadN hX (show 77 < NC by decide) (show lay 77 = (1, 4, []) by decide) rfl (hp) (by decide) dX10_kindOf_5 ?_
    refine g_if_ne (tgt := 17) hX dX10_kindOf_6 (by decide) (fun _ => ?_) (fun h9 => absurd h9 (ho))
    refine g_iconst hX dX10_kindOf_17 ic5 ?_
    refine g_goto (tgt := 24) hX dX10_kindOf_18 (by decide) ?_
    refine g_iret (st := []) hX hE rfl dX10_kindOf_24 (⟨by rw [kdV, if_pos (Or.inl ho)]; rfl, rfl⟩)
