/-! promise 27: ask -/
def bg (S : St) (t : Nat) (v : Int32) : St := pI (pI S 64 t v) 63 1 (nI (t + 1))
def bgs (S : St) (t : Nat) : List Int32 → St
  | [] => S
  | v :: l => bgs (bg S t v) (t + 1) l
def bgR (S : St) (t : Nat) (v : Int32) : St := pI (pI S 85 t v) 67 38 (nI (t + 1))
def bgsR (S : St) (t : Nat) : List Int32 → St
  | [] => S
  | v :: l => bgsR (bgR S t v) (t + 1) l
theorem bg_c (S : St) (t : Nat) (v : Int32) : (bg S t v).1 63 1 = nI (t + 1) := by
  unfold bg; rw [pR_self, upd_self]
theorem bg_o (S : St) (t : Nat) (v : Int32) {j : Nat} (h : j ≠ 1) : (bg S t v).1 63 j = S.1 63 j := by
  show upd _ 1 _ j = _
  rw [upd_ne _ _ h]; rfl
theorem bgR_c (S : St) (t : Nat) (v : Int32) : (bgR S t v).1 67 38 = nI (t + 1) := by
  unfold bgR; rw [pR_self, upd_self]
theorem bg_F (S : St) (t : Nat) (v : Int32) : Fq [64] [(63, 1)] S (bg S t v) := (Fq.rf.R (by decide)).I (by decide)
theorem bgR_F (S : St) (t : Nat) (v : Int32) : Fq [85] [(67, 38)] S (bgR S t v) := (Fq.rf.R (by decide)).I (by decide)
theorem bgs_F : ∀ (l : List Int32) (S : St) (t : Nat), Fq [64] [(63, 1)] S (bgs S t l) := by
  intro l
  induction l with
  | nil => intro S t; exact Fq.rf
  | cons v l ih => intro S t; exact (bg_F S t v).tr (ih _ _)
theorem bgsR_F : ∀ (l : List Int32) (S : St) (t : Nat), Fq [85] [(67, 38)] S (bgsR S t l) := by
  intro l
  induction l with
  | nil => intro S t; exact Fq.rf
  | cons v l ih => intro S t; exact (bgR_F S t v).tr (ih _ _)
theorem bgs_lo : ∀ (l : List Int32) (S : St) (t j : Nat), j < t → (bgs S t l).1 64 j = S.1 64 j := by
  intro l
  induction l with
  | nil => intro S t j _; rfl
  | cons v l ih =>
    intro S t j h
    rw [bgs, ih _ _ _ (by omega)]
    show upd (S.1 64) t v j = _
    rw [upd_ne _ _ (by omega)]
theorem bgsR_lo : ∀ (l : List Int32) (S : St) (t j : Nat), j < t → (bgsR S t l).1 85 j = S.1 85 j := by
  intro l
  induction l with
  | nil => intro S t j _; rfl
  | cons v l ih =>
    intro S t j h
    rw [bgsR, ih _ _ _ (by omega)]
    show upd (S.1 85) t v j = _
    rw [upd_ne _ _ (by omega)]
theorem bgs_at : ∀ (l : List Int32) (S : St) (t i : Nat), i < l.length → (bgs S t l).1 64 (t + i) = l.getD i 0 := by
  intro l
  induction l with
  | nil => intro S t i h; cases h
  | cons v l ih =>
    intro S t i h
    cases i with
    | zero =>
      rw [bgs, Nat.add_zero, bgs_lo l _ _ _ (by omega)]
      show upd (S.1 64) t v t = _
      rw [upd_self]; rfl
    | succ i =>
      rw [bgs, show t + (i + 1) = t + 1 + i by omega, ih _ _ i (by simpa using h)]; rfl
theorem bgsR_at : ∀ (l : List Int32) (S : St) (t i : Nat), i < l.length → (bgsR S t l).1 85 (t + i) = l.getD i 0 := by
  intro l
  induction l with
  | nil => intro S t i h; cases h
  | cons v l ih =>
    intro S t i h
    cases i with
    | zero =>
      rw [bgsR, Nat.add_zero, bgsR_lo l _ _ _ (by omega)]
      show upd (S.1 85) t v t = _
      rw [upd_self]; rfl
    | succ i =>
      rw [bgsR, show t + (i + 1) = t + 1 + i by omega, ih _ _ i (by simpa using h)]; rfl
theorem bgs_n : ∀ (l : List Int32) (S : St) (t : Nat), S.1 63 1 = nI t → (bgs S t l).1 63 1 = nI (t + l.length) := by
  intro l
  induction l with
  | nil => intro S t h; exact h
  | cons v l ih => intro S t _; rw [bgs, ih _ _ (bg_c S t v), List.length_cons]; congr 1; omega
theorem bgsR_n : ∀ (l : List Int32) (S : St) (t : Nat), S.1 67 38 = nI t → (bgsR S t l).1 67 38 = nI (t + l.length) := by
  intro l
  induction l with
  | nil => intro S t h; exact h
  | cons v l ih => intro S t _; rw [bgsR, ih _ _ (bgR_c S t v), List.length_cons]; congr 1; omega
theorem c_leaveNumber {Γ : GG} {S : St} {t : Nat} {v : Int32} (h : S.1 63 1 = nI t) (ht : t < 16) : kX0_leaveNumber Γ [.ref (Γ.1 63), .int v] S (rV (bg S t v)) := by
  refine oX0_leaveNumber (fun X hX hE => ?_)
  refine g_aload_n (i := 0) hX dX0_leaveNumber_0 rfl rfl ?_
  refine fX0_15 hX dX0_leaveNumber_1 ?_
  refine g_if_lt (tgt := 39) hX dX0_leaveNumber_4 (by decide) (fun h9 => absurd h9 ((by rw [h]; exact nI_pos (by omega)))) (fun _ => ?_)
  refine g_aload_n (i := 0) hX dX0_leaveNumber_7 rfl rfl ?_
  refine fX0_15 hX dX0_leaveNumber_8 ?_
  refine g_aload_n (i := 0) hX dX0_leaveNumber_11 rfl rfl ?_
  refine fX0_9 hX dX0_leaveNumber_12 ?_
  refine g_alen hX (ia64).1 (ia64).2 dX0_leaveNumber_15 ?_
  refine g_icmp_ge (tgt := 39) hX dX0_leaveNumber_16 (by decide) (fun h9 => absurd h9 ((by rw [h]; exact nI_ge ht (by decide)))) (fun _ => ?_)
  refine g_aload_n (i := 0) hX dX0_leaveNumber_19 rfl rfl ?_
  refine fX0_9 hX dX0_leaveNumber_20 ?_
  refine g_aload_n (i := 0) hX dX0_leaveNumber_23 rfl rfl ?_
  refine fX0_15 hX dX0_leaveNumber_24 ?_
  refine g_iload_n (i := 1) hX dX0_leaveNumber_27 rfl rfl ?_
  refine g_iastoreN hX (ia64) (h) (ht) (by first | decide | assumption | omega) dX0_leaveNumber_28 ?_
  refine g_aload_n (i := 0) hX dX0_leaveNumber_29 rfl rfl ?_
  refine g_dup hX dX0_leaveNumber_30 rfl ?_
  refine fX0_15 hX dX0_leaveNumber_31 ?_
  refine g_iconst hX dX0_leaveNumber_34 ic1 ?_
  refine g_iadd hX dX0_leaveNumber_35 ?_
  refine pX0_15 hX dX0_leaveNumber_36 ?_
  refine g_vret (st := []) hX hE rfl dX0_leaveNumber_39 (⟨rfl, ?_⟩)
  show pI _ 63 1 (S.1 63 1 + 1) = _
  rw [h, nI_1]; rfl
theorem c_began {Γ : GG} {S : St} {t : Nat} {v : Int32} (h : S.1 67 38 = nI t) (ht : t < 16) : kX10_began Γ [.ref (Γ.1 67), .int v] S (rV (bgR S t v)) := by
  refine oX10_began (fun X hX hE => ?_)
  refine g_aload_n (i := 0) hX dX10_began_0 rfl rfl ?_
  refine fX10_300 hX dX10_began_1 ?_
  refine g_bipush hX dX10_began_4 bp16 ?_
  refine g_icmp_ge (tgt := 29) hX dX10_began_6 (by decide) (fun h9 => absurd h9 ((by rw [h]; exact nI_ge ht (by decide)))) (fun _ => ?_)
  refine g_aload_n (i := 0) hX dX10_began_9 rfl rfl ?_
  refine fX10_75 hX dX10_began_10 ?_
  refine g_aload_n (i := 0) hX dX10_began_13 rfl rfl ?_
  refine fX10_300 hX dX10_began_14 ?_
  refine g_iload_n (i := 1) hX dX10_began_17 rfl rfl ?_
  refine g_iastoreN hX (ia85) (h) (ht) (by first | decide | assumption | omega) dX10_began_18 ?_
  refine g_aload_n (i := 0) hX dX10_began_19 rfl rfl ?_
  refine g_dup hX dX10_began_20 rfl ?_
  refine fX10_300 hX dX10_began_21 ?_
  refine g_iconst hX dX10_began_24 ic1 ?_
  refine g_iadd hX dX10_began_25 ?_
  refine pX10_300 hX dX10_began_26 ?_
  refine g_vret (st := []) hX hE rfl dX10_began_29 (⟨rfl, ?_⟩)
  show pI _ 67 38 (S.1 67 38 + 1) = _
  rw [h, nI_1]; rfl
theorem c_body10 {Γ : GG} {S : St} {t : Nat} (h : S.1 63 1 = nI t) (ht : t < 16) : kX0_body10 Γ [.ref (Γ.1 63)] S (rI (S.1 63 4) (bgs S t [10])) := by
  refine oX0_body10 (fun X hX hE => ?_)
  refine g_aload_n (i := 0) hX dX0_body10_0 rfl rfl ?_
  refine g_bipush hX dX0_body10_1 bp10 ?_
  refine sX0_73 hX ⟨Nat.le_of_ble_eq_true rfl, Nat.le_of_ble_eq_true rfl⟩ (Nat.le_of_ble_eq_true rfl) dX0_body10_3 (c_leaveNumber h ht) ?_
  refine g_aload_n (i := 0) hX dX0_body10_6 rfl rfl ?_
  refine fX0_25 hX dX0_body10_7 ?_
  refine g_iret (st := []) hX hE rfl dX0_body10_10 (⟨by rw [bg_o _ _ _ (by decide)], rfl⟩)
theorem c_body20 {Γ : GG} {S : St} {t : Nat} (h : S.1 63 1 = nI t) (ht : t < 16) : kX0_body20 Γ [.ref (Γ.1 63)] S (rI (S.1 63 2) (bgs S t [20])) := by
  refine oX0_body20 (fun X hX hE => ?_)
  refine g_aload_n (i := 0) hX dX0_body20_0 rfl rfl ?_
  refine g_bipush hX dX0_body20_1 bp20 ?_
  refine sX0_73 hX ⟨Nat.le_of_ble_eq_true rfl, Nat.le_of_ble_eq_true rfl⟩ (Nat.le_of_ble_eq_true rfl) dX0_body20_3 (c_leaveNumber h ht) ?_
  refine g_aload_n (i := 0) hX dX0_body20_6 rfl rfl ?_
  refine fX0_19 hX dX0_body20_7 ?_
  refine g_iret (st := []) hX hE rfl dX0_body20_10 (⟨by rw [bg_o _ _ _ (by decide)], rfl⟩)
theorem c_body12 {Γ : GG} {S : St} {t : Nat} (h : S.1 63 1 = nI t) (ht : t < 14) : kX0_body12 Γ [.ref (Γ.1 63)] S (rI (2 * S.1 63 4) (bgs S t [12, 10])) := by
  refine oX0_body12 (fun X hX hE => ?_)
  refine g_aload_n (i := 0) hX dX0_body12_0 rfl rfl ?_
  refine g_bipush hX dX0_body12_1 bp12 ?_
  refine sX0_73 hX ⟨Nat.le_of_ble_eq_true rfl, Nat.le_of_ble_eq_true rfl⟩ (Nat.le_of_ble_eq_true rfl) dX0_body12_3 (c_leaveNumber h (by omega)) ?_
  refine g_iconst hX dX0_body12_6 ic2 ?_
  refine g_aload_n (i := 0) hX dX0_body12_7 rfl rfl ?_
  refine sX0_58 hX ⟨Nat.le_of_ble_eq_true rfl, Nat.le_of_ble_eq_true rfl⟩ (Nat.le_of_ble_eq_true rfl) dX0_body12_8 (c_body10 (bg_c _ _ _) (by omega)) ?_
  refine g_imul hX dX0_body12_11 ?_
  refine g_iret (st := []) hX hE rfl dX0_body12_12 (⟨by rw [bg_o _ _ _ (by decide)], rfl⟩)
theorem c_body14 {Γ : GG} {S : St} {t : Nat} (h : S.1 63 1 = nI t) (ht : t < 14) : kX0_body14 Γ [.ref (Γ.1 63)] S (rI (-S.1 63 4) (bgs S t [14, 10])) := by
  refine oX0_body14 (fun X hX hE => ?_)
  refine g_aload_n (i := 0) hX dX0_body14_0 rfl rfl ?_
  refine g_bipush hX dX0_body14_1 bp14 ?_
  refine sX0_73 hX ⟨Nat.le_of_ble_eq_true rfl, Nat.le_of_ble_eq_true rfl⟩ (Nat.le_of_ble_eq_true rfl) dX0_body14_3 (c_leaveNumber h (by omega)) ?_
  refine g_aload_n (i := 0) hX dX0_body14_6 rfl rfl ?_
  refine sX0_58 hX ⟨Nat.le_of_ble_eq_true rfl, Nat.le_of_ble_eq_true rfl⟩ (Nat.le_of_ble_eq_true rfl) dX0_body14_7 (c_body10 (bg_c _ _ _) (by omega)) ?_
  refine g_ineg hX dX0_body14_10 ?_
  refine g_iret (st := []) hX hE rfl dX0_body14_11 (⟨by rw [bg_o _ _ _ (by decide)], rfl⟩)
theorem c_body21 {Γ : GG} {S : St} {t : Nat} (h : S.1 63 1 = nI t) (ht : t < 14) : kX0_body21 Γ [.ref (Γ.1 63)] S (rI (S.1 63 2 + S.1 63 5) (bgs S t [21, 20])) := by
  refine oX0_body21 (fun X hX hE => ?_)
  refine g_aload_n (i := 0) hX dX0_body21_0 rfl rfl ?_
  refine g_bipush hX dX0_body21_1 bp21 ?_
  refine sX0_73 hX ⟨Nat.le_of_ble_eq_true rfl, Nat.le_of_ble_eq_true rfl⟩ (Nat.le_of_ble_eq_true rfl) dX0_body21_3 (c_leaveNumber h (by omega)) ?_
  refine g_aload_n (i := 0) hX dX0_body21_6 rfl rfl ?_
  refine sX0_70 hX ⟨Nat.le_of_ble_eq_true rfl, Nat.le_of_ble_eq_true rfl⟩ (Nat.le_of_ble_eq_true rfl) dX0_body21_7 (c_body20 (bg_c _ _ _) (by omega)) ?_
  refine g_aload_n (i := 0) hX dX0_body21_10 rfl rfl ?_
  refine fX0_28 hX dX0_body21_11 ?_
  refine g_iadd hX dX0_body21_14 ?_
  refine g_iret (st := []) hX hE rfl dX0_body21_15 (⟨?_, rfl⟩)
  show some (Value.int ((bg S t 21).1 63 2 + (bg (bg S t 21) (t + 1) 20).1 63 5)) = _
  rw [bg_o _ _ _ (by decide), bg_o _ _ _ (by decide), bg_o _ _ _ (by decide)]
theorem c_body22 {Γ : GG} {S : St} {t : Nat} (h : S.1 63 1 = nI t) (ht : t < 14) : kX0_body22 Γ [.ref (Γ.1 63)] S (rI (S.1 63 2 + 100) (bgs S t [22, 20])) := by
  refine oX0_body22 (fun X hX hE => ?_)
  refine g_aload_n (i := 0) hX dX0_body22_0 rfl rfl ?_
  refine g_bipush hX dX0_body22_1 bp22 ?_
  refine sX0_73 hX ⟨Nat.le_of_ble_eq_true rfl, Nat.le_of_ble_eq_true rfl⟩ (Nat.le_of_ble_eq_true rfl) dX0_body22_3 (c_leaveNumber h (by omega)) ?_
  refine g_aload_n (i := 0) hX dX0_body22_6 rfl rfl ?_
  refine sX0_70 hX ⟨Nat.le_of_ble_eq_true rfl, Nat.le_of_ble_eq_true rfl⟩ (Nat.le_of_ble_eq_true rfl) dX0_body22_7 (c_body20 (bg_c _ _ _) (by omega)) ?_
  refine g_bipush hX dX0_body22_10 bp100 ?_
  refine g_iadd hX dX0_body22_12 ?_
  refine g_iret (st := []) hX hE rfl dX0_body22_13 (⟨by rw [bg_o _ _ _ (by decide)], rfl⟩)
theorem c_body23 {Γ : GG} {S : St} {t : Nat} (h : S.1 63 1 = nI t) (ht : t < 12) : kX0_body23 Γ [.ref (Γ.1 63)] S (rI (2 * (S.1 63 2 + 100)) (bgs S t [23, 22, 20])) := by
  refine oX0_body23 (fun X hX hE => ?_)
  refine g_aload_n (i := 0) hX dX0_body23_0 rfl rfl ?_
  refine g_bipush hX dX0_body23_1 bp23 ?_
  refine sX0_73 hX ⟨Nat.le_of_ble_eq_true rfl, Nat.le_of_ble_eq_true rfl⟩ (Nat.le_of_ble_eq_true rfl) dX0_body23_3 (c_leaveNumber h (by omega)) ?_
  refine g_iconst hX dX0_body23_6 ic2 ?_
  refine g_aload_n (i := 0) hX dX0_body23_7 rfl rfl ?_
  refine sX0_64 hX ⟨Nat.le_of_ble_eq_true rfl, Nat.le_of_ble_eq_true rfl⟩ (Nat.le_of_ble_eq_true rfl) dX0_body23_8 (c_body22 (bg_c _ _ _) (by omega)) ?_
  refine g_imul hX dX0_body23_11 ?_
  refine g_iret (st := []) hX hE rfl dX0_body23_12 (⟨by rw [bg_o _ _ _ (by decide)], rfl⟩)
def mkL (k : Nat) : List Int32 := if k = 2 then [21, 20] else if k = 3 then [22, 20] else if k = 4 then [23, 22, 20] else [20]
def mkV (k : Nat) (p n : Int32) : Int32 := if k = 2 then p + n else if k = 3 then p + 100 else if k = 4 then 2 * (p + 100) else p
def szL (k : Nat) : List Int32 := if k = 2 then [11, 10, 21, 20] else if k = 3 then [12, 10] else if k = 4 then [13, 12, 10, 23, 22, 20] else if k = 5 then [14, 10] else [10]
def szV (k : Nat) (p n v : Int32) : Int32 := if k = 2 then v + (p + n) else if k = 3 then 2 * v else if k = 4 then 2 * v - 2 * (p + 100) else if k = 5 then -v else v
theorem c_askMark {Γ : GG} {S : St} {t k : Nat} (h : S.1 63 1 = nI t) (ht : t < 10) (hk : S.1 63 3 = nI k) (h1 : 1 ≤ k) (h5 : k ≤ 5) : kX0_askMark Γ [.ref (Γ.1 63)] S (rI (mkV k (S.1 63 2) (S.1 63 5)) (bgs S t (mkL k))) := by
  refine oX0_askMark (fun X hX hE => ?_)
  rcases (by omega : k = 1 ∨ k = 2 ∨ k = 3 ∨ k = 4 ∨ k = 5) with rfl | rfl | rfl | rfl | rfl
  · refine g_aload_n (i := 0) hX dX0_askMark_0 rfl rfl ?_
    refine fX0_22 hX dX0_askMark_1 ?_
    rw [hk]
    refine g_tableOut (tgt := 47) hX dX0_askMark_4 (by decide) (by decide) ?_
    refine g_aload_n (i := 0) hX dX0_askMark_47 rfl rfl ?_
    refine sX0_70 hX ⟨Nat.le_of_ble_eq_true rfl, Nat.le_of_ble_eq_true rfl⟩ (Nat.le_of_ble_eq_true rfl) dX0_askMark_48 (c_body20 h (by omega)) ?_
    refine g_iret (st := []) hX hE rfl dX0_askMark_51 (⟨rfl, rfl⟩)
  · refine g_aload_n (i := 0) hX dX0_askMark_0 rfl rfl ?_
    refine fX0_22 hX dX0_askMark_1 ?_
    rw [hk]
    refine g_tableIn (off := 28) (tgt := 32) hX dX0_askMark_4 (by decide) (by decide) (by decide) (by decide) ?_
    refine g_aload_n (i := 0) hX dX0_askMark_32 rfl rfl ?_
    refine sX0_61 hX ⟨Nat.le_of_ble_eq_true rfl, Nat.le_of_ble_eq_true rfl⟩ (Nat.le_of_ble_eq_true rfl) dX0_askMark_33 (c_body21 h (by omega)) ?_
    refine g_iret (st := []) hX hE rfl dX0_askMark_36 (⟨rfl, rfl⟩)
  · refine g_aload_n (i := 0) hX dX0_askMark_0 rfl rfl ?_
    refine fX0_22 hX dX0_askMark_1 ?_
    rw [hk]
    refine g_tableIn (off := 33) (tgt := 37) hX dX0_askMark_4 (by decide) (by decide) (by decide) (by decide) ?_
    refine g_aload_n (i := 0) hX dX0_askMark_37 rfl rfl ?_
    refine sX0_64 hX ⟨Nat.le_of_ble_eq_true rfl, Nat.le_of_ble_eq_true rfl⟩ (Nat.le_of_ble_eq_true rfl) dX0_askMark_38 (c_body22 h (by omega)) ?_
    refine g_iret (st := []) hX hE rfl dX0_askMark_41 (⟨rfl, rfl⟩)
  · refine g_aload_n (i := 0) hX dX0_askMark_0 rfl rfl ?_
    refine fX0_22 hX dX0_askMark_1 ?_
    rw [hk]
    refine g_tableIn (off := 38) (tgt := 42) hX dX0_askMark_4 (by decide) (by decide) (by decide) (by decide) ?_
    refine g_aload_n (i := 0) hX dX0_askMark_42 rfl rfl ?_
    refine sX0_67 hX ⟨Nat.le_of_ble_eq_true rfl, Nat.le_of_ble_eq_true rfl⟩ (Nat.le_of_ble_eq_true rfl) dX0_askMark_43 (c_body23 h (by omega)) ?_
    refine g_iret (st := []) hX hE rfl dX0_askMark_46 (⟨rfl, rfl⟩)
  · refine g_aload_n (i := 0) hX dX0_askMark_0 rfl rfl ?_
    refine fX0_22 hX dX0_askMark_1 ?_
    rw [hk]
    refine g_tableOut (tgt := 47) hX dX0_askMark_4 (by decide) (by decide) ?_
    refine g_aload_n (i := 0) hX dX0_askMark_47 rfl rfl ?_
    refine sX0_70 hX ⟨Nat.le_of_ble_eq_true rfl, Nat.le_of_ble_eq_true rfl⟩ (Nat.le_of_ble_eq_true rfl) dX0_askMark_48 (c_body20 h (by omega)) ?_
    refine g_iret (st := []) hX hE rfl dX0_askMark_51 (⟨rfl, rfl⟩)
theorem c_body11 {Γ : GG} {S : St} (h : S.1 63 1 = nI 0) (hk : S.1 63 3 = nI 2) : kX0_body11 Γ [.ref (Γ.1 63)] S (rI (szV 2 (S.1 63 2) (S.1 63 5) (S.1 63 4)) (bgs S 0 (szL 2))) := by
  refine oX0_body11 (fun X hX hE => ?_)
  have hm := c_askMark (Γ := Γ) (S := bgs (bg S 0 11) 1 [10]) (t := 2) (k := 2) (bg_c _ _ _) (by decide) (by show (bg (bg S 0 11) 1 10).1 63 3 = _; rw [bg_o _ _ _ (by decide), bg_o _ _ _ (by decide), hk]) (by decide) (by decide)
  refine g_aload_n (i := 0) hX dX0_body11_0 rfl rfl ?_
  refine g_bipush hX dX0_body11_1 bp11 ?_
  refine sX0_73 hX ⟨Nat.le_of_ble_eq_true rfl, Nat.le_of_ble_eq_true rfl⟩ (Nat.le_of_ble_eq_true rfl) dX0_body11_3 (c_leaveNumber h (by decide)) ?_
  refine g_aload_n (i := 0) hX dX0_body11_6 rfl rfl ?_
  refine sX0_58 hX ⟨Nat.le_of_ble_eq_true rfl, Nat.le_of_ble_eq_true rfl⟩ (Nat.le_of_ble_eq_true rfl) dX0_body11_7 (c_body10 (t := 1) (bg_c _ _ _) (by decide)) ?_
  refine g_istore_n (i := 1) hX dX0_body11_10 rfl (by decide) rfl ?_
  refine g_iload_n (i := 1) hX dX0_body11_11 rfl rfl ?_
  refine g_aload_n (i := 0) hX dX0_body11_12 rfl rfl ?_
  refine sX0_77 hX ⟨Nat.le_of_ble_eq_true rfl, Nat.le_of_ble_eq_true rfl⟩ (Nat.le_of_ble_eq_true rfl) dX0_body11_13 (hm) ?_
  refine g_iadd hX dX0_body11_16 ?_
  refine g_iret (st := []) hX hE rfl dX0_body11_17 (⟨?_, rfl⟩)
  show some (Value.int ((bg S 0 11).1 63 4 + ((bg (bg S 0 11) 1 10).1 63 2 + (bg (bg S 0 11) 1 10).1 63 5))) = some (Value.int (S.1 63 4 + (S.1 63 2 + S.1 63 5)))
  rw [bg_o _ _ _ (by decide), bg_o _ _ _ (by decide), bg_o _ _ _ (by decide), bg_o _ _ _ (by decide), bg_o _ _ _ (by decide)]
theorem c_body13 {Γ : GG} {S : St} (h : S.1 63 1 = nI 0) (hk : S.1 63 3 = nI 4) : kX0_body13 Γ [.ref (Γ.1 63)] S (rI (szV 4 (S.1 63 2) (S.1 63 5) (S.1 63 4)) (bgs S 0 (szL 4))) := by
  refine oX0_body13 (fun X hX hE => ?_)
  have hm := c_askMark (Γ := Γ) (S := bgs (bg S 0 13) 1 [12, 10]) (t := 3) (k := 4) (bg_c _ _ _) (by decide) (by show (bg (bg (bg S 0 13) 1 12) 2 10).1 63 3 = _; rw [bg_o _ _ _ (by decide), bg_o _ _ _ (by decide), bg_o _ _ _ (by decide), hk]) (by decide) (by decide)
  refine g_aload_n (i := 0) hX dX0_body13_0 rfl rfl ?_
  refine g_bipush hX dX0_body13_1 bp13 ?_
  refine sX0_73 hX ⟨Nat.le_of_ble_eq_true rfl, Nat.le_of_ble_eq_true rfl⟩ (Nat.le_of_ble_eq_true rfl) dX0_body13_3 (c_leaveNumber h (by decide)) ?_
  refine g_aload_n (i := 0) hX dX0_body13_6 rfl rfl ?_
  refine sX0_49 hX ⟨Nat.le_of_ble_eq_true rfl, Nat.le_of_ble_eq_true rfl⟩ (Nat.le_of_ble_eq_true rfl) dX0_body13_7 (c_body12 (t := 1) (bg_c _ _ _) (by decide)) ?_
  refine g_istore_n (i := 1) hX dX0_body13_10 rfl (by decide) rfl ?_
  refine g_iload_n (i := 1) hX dX0_body13_11 rfl rfl ?_
  refine g_aload_n (i := 0) hX dX0_body13_12 rfl rfl ?_
  refine sX0_77 hX ⟨Nat.le_of_ble_eq_true rfl, Nat.le_of_ble_eq_true rfl⟩ (Nat.le_of_ble_eq_true rfl) dX0_body13_13 (hm) ?_
  refine g_isub hX dX0_body13_16 ?_
  refine g_iret (st := []) hX hE rfl dX0_body13_17 (⟨?_, rfl⟩)
  show some (Value.int (2 * (bg S 0 13).1 63 4 - 2 * ((bg (bg (bg S 0 13) 1 12) 2 10).1 63 2 + 100))) = some (Value.int (2 * S.1 63 4 - 2 * (S.1 63 2 + 100)))
  rw [bg_o _ _ _ (by decide), bg_o _ _ _ (by decide), bg_o _ _ _ (by decide), bg_o _ _ _ (by decide)]
theorem c_askSize {Γ : GG} {S : St} {k : Nat} (h : S.1 63 1 = nI 0) (hk : S.1 63 3 = nI k) (h1 : 1 ≤ k) (h5 : k ≤ 5) : kX0_askSize Γ [.ref (Γ.1 63)] S (rI (szV k (S.1 63 2) (S.1 63 5) (S.1 63 4)) (bgs S 0 (szL k))) := by
  refine oX0_askSize (fun X hX hE => ?_)
  rcases (by omega : k = 1 ∨ k = 2 ∨ k = 3 ∨ k = 4 ∨ k = 5) with rfl | rfl | rfl | rfl | rfl
  · refine g_aload_n (i := 0) hX dX0_askSize_0 rfl rfl ?_
    refine fX0_22 hX dX0_askSize_1 ?_
    rw [hk]
    refine g_tableOut (tgt := 56) hX dX0_askSize_4 (by decide) (by decide) ?_
    refine g_aload_n (i := 0) hX dX0_askSize_56 rfl rfl ?_
    refine sX0_58 hX ⟨Nat.le_of_ble_eq_true rfl, Nat.le_of_ble_eq_true rfl⟩ (Nat.le_of_ble_eq_true rfl) dX0_askSize_57 (c_body10 h (by omega)) ?_
    refine g_iret (st := []) hX hE rfl dX0_askSize_60 (⟨rfl, rfl⟩)
  · refine g_aload_n (i := 0) hX dX0_askSize_0 rfl rfl ?_
    refine fX0_22 hX dX0_askSize_1 ?_
    rw [hk]
    refine g_tableIn (off := 32) (tgt := 36) hX dX0_askSize_4 (by decide) (by decide) (by decide) (by decide) ?_
    refine g_aload_n (i := 0) hX dX0_askSize_36 rfl rfl ?_
    refine sX0_45 hX ⟨Nat.le_of_ble_eq_true rfl, Nat.le_of_ble_eq_true rfl⟩ (Nat.le_of_ble_eq_true rfl) dX0_askSize_37 (c_body11 h hk) ?_
    refine g_iret (st := []) hX hE rfl dX0_askSize_40 (⟨rfl, rfl⟩)
  · refine g_aload_n (i := 0) hX dX0_askSize_0 rfl rfl ?_
    refine fX0_22 hX dX0_askSize_1 ?_
    rw [hk]
    refine g_tableIn (off := 37) (tgt := 41) hX dX0_askSize_4 (by decide) (by decide) (by decide) (by decide) ?_
    refine g_aload_n (i := 0) hX dX0_askSize_41 rfl rfl ?_
    refine sX0_49 hX ⟨Nat.le_of_ble_eq_true rfl, Nat.le_of_ble_eq_true rfl⟩ (Nat.le_of_ble_eq_true rfl) dX0_askSize_42 (c_body12 h (by omega)) ?_
    refine g_iret (st := []) hX hE rfl dX0_askSize_45 (⟨rfl, rfl⟩)
  · refine g_aload_n (i := 0) hX dX0_askSize_0 rfl rfl ?_
    refine fX0_22 hX dX0_askSize_1 ?_
    rw [hk]
    refine g_tableIn (off := 42) (tgt := 46) hX dX0_askSize_4 (by decide) (by decide) (by decide) (by decide) ?_
    refine g_aload_n (i := 0) hX dX0_askSize_46 rfl rfl ?_
    refine sX0_52 hX ⟨Nat.le_of_ble_eq_true rfl, Nat.le_of_ble_eq_true rfl⟩ (Nat.le_of_ble_eq_true rfl) dX0_askSize_47 (c_body13 h hk) ?_
    refine g_iret (st := []) hX hE rfl dX0_askSize_50 (⟨rfl, rfl⟩)
  · refine g_aload_n (i := 0) hX dX0_askSize_0 rfl rfl ?_
    refine fX0_22 hX dX0_askSize_1 ?_
    rw [hk]
    refine g_tableIn (off := 47) (tgt := 51) hX dX0_askSize_4 (by decide) (by decide) (by decide) (by decide) ?_
    refine g_aload_n (i := 0) hX dX0_askSize_51 rfl rfl ?_
    refine sX0_55 hX ⟨Nat.le_of_ble_eq_true rfl, Nat.le_of_ble_eq_true rfl⟩ (Nat.le_of_ble_eq_true rfl) dX0_askSize_52 (c_body14 h (by omega)) ?_
    refine g_iret (st := []) hX hE rfl dX0_askSize_55 (⟨rfl, rfl⟩)
theorem c_markOf {Γ : GG} {S : St} {t k p n : Nat} (h : S.1 67 38 = nI t) (ht : t < 10) (hn : S.1 71 0 = nI n) (h1 : 1 ≤ k) (h5 : k ≤ 5) : kX10_markOf Γ [.ref (Γ.1 67), .int (nI p), .int (nI k)] S (rI (mkV k (nI p) (nI n)) (bgsR S t (mkL k))) := by
  refine oX10_markOf (fun X hX hE => ?_)
  rcases (by omega : k = 1 ∨ k = 2 ∨ k = 3 ∨ k = 4 ∨ k = 5) with rfl | rfl | rfl | rfl | rfl
  · refine g_iload_n (i := 2) hX dX10_markOf_0 rfl rfl ?_
    refine g_iconst hX dX10_markOf_1 ic4 ?_
    refine g_icmp_ne (tgt := 11) hX dX10_markOf_2 (by decide) (fun _ => ?_) (fun h9 => absurd h9 ((by decide)))
    refine g_iload_n (i := 2) hX dX10_markOf_11 rfl rfl ?_
    refine g_iconst hX dX10_markOf_12 ic2 ?_
    refine g_icmp_eq (tgt := 24) hX dX10_markOf_13 (by decide) (fun h9 => absurd h9 ((by decide))) (fun _ => ?_)
    refine g_iload_n (i := 2) hX dX10_markOf_16 rfl rfl ?_
    refine g_iconst hX dX10_markOf_17 ic3 ?_
    refine sX10_296 hX ⟨Nat.le_of_ble_eq_true rfl, Nat.le_of_ble_eq_true rfl⟩ (Nat.le_of_ble_eq_true rfl) dX10_markOf_18 (c_isOf (q := 3) (by decide) (by decide) (Or.inr ⟨by unfold isK; decide, rfl⟩)) ?_
    refine g_if_eq (tgt := 40) hX dX10_markOf_21 (by decide) (fun _ => ?_) (fun h9 => absurd (rfl) h9)
    refine g_aload_n (i := 0) hX dX10_markOf_40 rfl rfl ?_
    refine g_bipush hX dX10_markOf_41 bp20 ?_
    refine sX10_303 hX ⟨Nat.le_of_ble_eq_true rfl, Nat.le_of_ble_eq_true rfl⟩ (Nat.le_of_ble_eq_true rfl) dX10_markOf_43 (c_began h (by omega)) ?_
    refine g_iload_n (i := 1) hX dX10_markOf_46 rfl rfl ?_
    refine g_iload_n (i := 2) hX dX10_markOf_47 rfl rfl ?_
    refine g_iconst hX dX10_markOf_48 ic2 ?_
    refine g_icmp_ne (tgt := 61) hX dX10_markOf_49 (by decide) (fun _ => ?_) (fun h9 => absurd h9 ((by decide)))
    refine g_iload_n (i := 2) hX dX10_markOf_61 rfl rfl ?_
    refine g_iconst hX dX10_markOf_62 ic3 ?_
    refine sX10_296 hX ⟨Nat.le_of_ble_eq_true rfl, Nat.le_of_ble_eq_true rfl⟩ (Nat.le_of_ble_eq_true rfl) dX10_markOf_63 (c_isOf (q := 3) (by decide) (by decide) (Or.inr ⟨by unfold isK; decide, rfl⟩)) ?_
    refine g_if_eq (tgt := 74) hX dX10_markOf_66 (by decide) (fun _ => ?_) (fun h9 => absurd (rfl) h9)
    refine g_iconst hX dX10_markOf_74 ic0 ?_
    refine g_iadd hX dX10_markOf_75 ?_
    refine g_istore_n (i := 3) hX dX10_markOf_76 rfl (by decide) rfl ?_
    refine g_iload_n (i := 2) hX dX10_markOf_77 rfl rfl ?_
    refine g_iconst hX dX10_markOf_78 ic4 ?_
    refine g_icmp_ne (tgt := 88) hX dX10_markOf_79 (by decide) (fun _ => ?_) (fun h9 => absurd h9 ((by decide)))
    refine g_iload_n (i := 3) hX dX10_markOf_88 rfl rfl ?_
    refine g_iret (st := []) hX hE rfl dX10_markOf_89 (⟨by rw [Int32.add_zero]; rfl, rfl⟩)
  · refine g_iload_n (i := 2) hX dX10_markOf_0 rfl rfl ?_
    refine g_iconst hX dX10_markOf_1 ic4 ?_
    refine g_icmp_ne (tgt := 11) hX dX10_markOf_2 (by decide) (fun _ => ?_) (fun h9 => absurd h9 ((by decide)))
    refine g_iload_n (i := 2) hX dX10_markOf_11 rfl rfl ?_
    refine g_iconst hX dX10_markOf_12 ic2 ?_
    refine g_icmp_eq (tgt := 24) hX dX10_markOf_13 (by decide) (fun _ => ?_) (fun h9 => absurd (rfl) h9)
    refine g_aload_n (i := 0) hX dX10_markOf_24 rfl rfl ?_
    refine g_iload_n (i := 2) hX dX10_markOf_25 rfl rfl ?_
    refine g_iconst hX dX10_markOf_26 ic2 ?_
    refine g_icmp_ne (tgt := 35) hX dX10_markOf_27 (by decide) (fun h9 => absurd (rfl) h9) (fun _ => ?_)
    refine g_bipush hX dX10_markOf_30 bp21 ?_
    refine g_goto (tgt := 37) hX dX10_markOf_32 (by decide) ?_
    refine sX10_303 hX ⟨Nat.le_of_ble_eq_true rfl, Nat.le_of_ble_eq_true rfl⟩ (Nat.le_of_ble_eq_true rfl) dX10_markOf_37 (c_began h (by omega)) ?_
    refine g_aload_n (i := 0) hX dX10_markOf_40 rfl rfl ?_
    refine g_bipush hX dX10_markOf_41 bp20 ?_
    refine sX10_303 hX ⟨Nat.le_of_ble_eq_true rfl, Nat.le_of_ble_eq_true rfl⟩ (Nat.le_of_ble_eq_true rfl) dX10_markOf_43 (c_began (bgR_c _ _ _) (by omega)) ?_
    refine g_iload_n (i := 1) hX dX10_markOf_46 rfl rfl ?_
    refine g_iload_n (i := 2) hX dX10_markOf_47 rfl rfl ?_
    refine g_iconst hX dX10_markOf_48 ic2 ?_
    refine g_icmp_ne (tgt := 61) hX dX10_markOf_49 (by decide) (fun h9 => absurd (rfl) h9) (fun _ => ?_)
    refine g_aload_n (i := 0) hX dX10_markOf_52 rfl rfl ?_
    refine fX10_19 hX dX10_markOf_53 ?_
    refine g_iconst hX dX10_markOf_56 ic0 ?_
    refine g_ialoadN (i := 0) hX (ia71) rfl (by decide) (by first | decide | assumption | omega) dX10_markOf_57 ?_
    refine g_goto (tgt := 75) hX dX10_markOf_58 (by decide) ?_
    refine g_iadd hX dX10_markOf_75 ?_
    refine g_istore_n (i := 3) hX dX10_markOf_76 rfl (by decide) rfl ?_
    refine g_iload_n (i := 2) hX dX10_markOf_77 rfl rfl ?_
    refine g_iconst hX dX10_markOf_78 ic4 ?_
    refine g_icmp_ne (tgt := 88) hX dX10_markOf_79 (by decide) (fun _ => ?_) (fun h9 => absurd h9 ((by decide)))
    refine g_iload_n (i := 3) hX dX10_markOf_88 rfl rfl ?_
    refine g_iret (st := []) hX hE rfl dX10_markOf_89 (⟨?_, rfl⟩)
    show some (Value.int (nI p + S.1 71 0)) = _
    rw [hn]; rfl
  · refine g_iload_n (i := 2) hX dX10_markOf_0 rfl rfl ?_
    refine g_iconst hX dX10_markOf_1 ic4 ?_
    refine g_icmp_ne (tgt := 11) hX dX10_markOf_2 (by decide) (fun _ => ?_) (fun h9 => absurd h9 ((by decide)))
    refine g_iload_n (i := 2) hX dX10_markOf_11 rfl rfl ?_
    refine g_iconst hX dX10_markOf_12 ic2 ?_
    refine g_icmp_eq (tgt := 24) hX dX10_markOf_13 (by decide) (fun h9 => absurd h9 ((by decide))) (fun _ => ?_)
    refine g_iload_n (i := 2) hX dX10_markOf_16 rfl rfl ?_
    refine g_iconst hX dX10_markOf_17 ic3 ?_
    refine sX10_296 hX ⟨Nat.le_of_ble_eq_true rfl, Nat.le_of_ble_eq_true rfl⟩ (Nat.le_of_ble_eq_true rfl) dX10_markOf_18 (c_isOf (q := 3) (by decide) (by decide) (Or.inl ⟨by unfold isK; decide, rfl⟩)) ?_
    refine g_if_eq (tgt := 40) hX dX10_markOf_21 (by decide) (fun h9 => absurd h9 ((by decide))) (fun _ => ?_)
    refine g_aload_n (i := 0) hX dX10_markOf_24 rfl rfl ?_
    refine g_iload_n (i := 2) hX dX10_markOf_25 rfl rfl ?_
    refine g_iconst hX dX10_markOf_26 ic2 ?_
    refine g_icmp_ne (tgt := 35) hX dX10_markOf_27 (by decide) (fun _ => ?_) (fun h9 => absurd h9 ((by decide)))
    refine g_bipush hX dX10_markOf_35 bp22 ?_
    refine sX10_303 hX ⟨Nat.le_of_ble_eq_true rfl, Nat.le_of_ble_eq_true rfl⟩ (Nat.le_of_ble_eq_true rfl) dX10_markOf_37 (c_began h (by omega)) ?_
    refine g_aload_n (i := 0) hX dX10_markOf_40 rfl rfl ?_
    refine g_bipush hX dX10_markOf_41 bp20 ?_
    refine sX10_303 hX ⟨Nat.le_of_ble_eq_true rfl, Nat.le_of_ble_eq_true rfl⟩ (Nat.le_of_ble_eq_true rfl) dX10_markOf_43 (c_began (bgR_c _ _ _) (by omega)) ?_
    refine g_iload_n (i := 1) hX dX10_markOf_46 rfl rfl ?_
    refine g_iload_n (i := 2) hX dX10_markOf_47 rfl rfl ?_
    refine g_iconst hX dX10_markOf_48 ic2 ?_
    refine g_icmp_ne (tgt := 61) hX dX10_markOf_49 (by decide) (fun _ => ?_) (fun h9 => absurd h9 ((by decide)))
    refine g_iload_n (i := 2) hX dX10_markOf_61 rfl rfl ?_
    refine g_iconst hX dX10_markOf_62 ic3 ?_
    refine sX10_296 hX ⟨Nat.le_of_ble_eq_true rfl, Nat.le_of_ble_eq_true rfl⟩ (Nat.le_of_ble_eq_true rfl) dX10_markOf_63 (c_isOf (q := 3) (by decide) (by decide) (Or.inl ⟨by unfold isK; decide, rfl⟩)) ?_
    refine g_if_eq (tgt := 74) hX dX10_markOf_66 (by decide) (fun h9 => absurd h9 ((by decide))) (fun _ => ?_)
    refine g_bipush hX dX10_markOf_69 bp100 ?_
    refine g_goto (tgt := 75) hX dX10_markOf_71 (by decide) ?_
    refine g_iadd hX dX10_markOf_75 ?_
    refine g_istore_n (i := 3) hX dX10_markOf_76 rfl (by decide) rfl ?_
    refine g_iload_n (i := 2) hX dX10_markOf_77 rfl rfl ?_
    refine g_iconst hX dX10_markOf_78 ic4 ?_
    refine g_icmp_ne (tgt := 88) hX dX10_markOf_79 (by decide) (fun _ => ?_) (fun h9 => absurd h9 ((by decide)))
    refine g_iload_n (i := 3) hX dX10_markOf_88 rfl rfl ?_
    refine g_iret (st := []) hX hE rfl dX10_markOf_89 (⟨rfl, rfl⟩)
  · refine g_iload_n (i := 2) hX dX10_markOf_0 rfl rfl ?_
    refine g_iconst hX dX10_markOf_1 ic4 ?_
    refine g_icmp_ne (tgt := 11) hX dX10_markOf_2 (by decide) (fun h9 => absurd (rfl) h9) (fun _ => ?_)
    refine g_aload_n (i := 0) hX dX10_markOf_5 rfl rfl ?_
    refine g_bipush hX dX10_markOf_6 bp23 ?_
    refine sX10_303 hX ⟨Nat.le_of_ble_eq_true rfl, Nat.le_of_ble_eq_true rfl⟩ (Nat.le_of_ble_eq_true rfl) dX10_markOf_8 (c_began h (by omega)) ?_
    refine g_iload_n (i := 2) hX dX10_markOf_11 rfl rfl ?_
    refine g_iconst hX dX10_markOf_12 ic2 ?_
    refine g_icmp_eq (tgt := 24) hX dX10_markOf_13 (by decide) (fun h9 => absurd h9 ((by decide))) (fun _ => ?_)
    refine g_iload_n (i := 2) hX dX10_markOf_16 rfl rfl ?_
    refine g_iconst hX dX10_markOf_17 ic3 ?_
    refine sX10_296 hX ⟨Nat.le_of_ble_eq_true rfl, Nat.le_of_ble_eq_true rfl⟩ (Nat.le_of_ble_eq_true rfl) dX10_markOf_18 (c_isOf (q := 3) (by decide) (by decide) (Or.inl ⟨by unfold isK; decide, rfl⟩)) ?_
    refine g_if_eq (tgt := 40) hX dX10_markOf_21 (by decide) (fun h9 => absurd h9 ((by decide))) (fun _ => ?_)
    refine g_aload_n (i := 0) hX dX10_markOf_24 rfl rfl ?_
    refine g_iload_n (i := 2) hX dX10_markOf_25 rfl rfl ?_
    refine g_iconst hX dX10_markOf_26 ic2 ?_
    refine g_icmp_ne (tgt := 35) hX dX10_markOf_27 (by decide) (fun _ => ?_) (fun h9 => absurd h9 ((by decide)))
    refine g_bipush hX dX10_markOf_35 bp22 ?_
    refine sX10_303 hX ⟨Nat.le_of_ble_eq_true rfl, Nat.le_of_ble_eq_true rfl⟩ (Nat.le_of_ble_eq_true rfl) dX10_markOf_37 (c_began (bgR_c _ _ _) (by omega)) ?_
    refine g_aload_n (i := 0) hX dX10_markOf_40 rfl rfl ?_
    refine g_bipush hX dX10_markOf_41 bp20 ?_
    refine sX10_303 hX ⟨Nat.le_of_ble_eq_true rfl, Nat.le_of_ble_eq_true rfl⟩ (Nat.le_of_ble_eq_true rfl) dX10_markOf_43 (c_began (bgR_c _ _ _) (by omega)) ?_
    refine g_iload_n (i := 1) hX dX10_markOf_46 rfl rfl ?_
    refine g_iload_n (i := 2) hX dX10_markOf_47 rfl rfl ?_
    refine g_iconst hX dX10_markOf_48 ic2 ?_
    refine g_icmp_ne (tgt := 61) hX dX10_markOf_49 (by decide) (fun _ => ?_) (fun h9 => absurd h9 ((by decide)))
    refine g_iload_n (i := 2) hX dX10_markOf_61 rfl rfl ?_
    refine g_iconst hX dX10_markOf_62 ic3 ?_
    refine sX10_296 hX ⟨Nat.le_of_ble_eq_true rfl, Nat.le_of_ble_eq_true rfl⟩ (Nat.le_of_ble_eq_true rfl) dX10_markOf_63 (c_isOf (q := 3) (by decide) (by decide) (Or.inl ⟨by unfold isK; decide, rfl⟩)) ?_
    refine g_if_eq (tgt := 74) hX dX10_markOf_66 (by decide) (fun h9 => absurd h9 ((by decide))) (fun _ => ?_)
    refine g_bipush hX dX10_markOf_69 bp100 ?_
    refine g_goto (tgt := 75) hX dX10_markOf_71 (by decide) ?_
    refine g_iadd hX dX10_markOf_75 ?_
    refine g_istore_n (i := 3) hX dX10_markOf_76 rfl (by decide) rfl ?_
    refine g_iload_n (i := 2) hX dX10_markOf_77 rfl rfl ?_
    refine g_iconst hX dX10_markOf_78 ic4 ?_
    refine g_icmp_ne (tgt := 88) hX dX10_markOf_79 (by decide) (fun h9 => absurd (rfl) h9) (fun _ => ?_)
    refine g_iconst hX dX10_markOf_82 ic2 ?_
    refine g_iload_n (i := 3) hX dX10_markOf_83 rfl rfl ?_
    refine g_imul hX dX10_markOf_84 ?_
    refine g_goto (tgt := 89) hX dX10_markOf_85 (by decide) ?_
    refine g_iret (st := []) hX hE rfl dX10_markOf_89 (⟨rfl, rfl⟩)
  · refine g_iload_n (i := 2) hX dX10_markOf_0 rfl rfl ?_
    refine g_iconst hX dX10_markOf_1 ic4 ?_
    refine g_icmp_ne (tgt := 11) hX dX10_markOf_2 (by decide) (fun _ => ?_) (fun h9 => absurd h9 ((by decide)))
    refine g_iload_n (i := 2) hX dX10_markOf_11 rfl rfl ?_
    refine g_iconst hX dX10_markOf_12 ic2 ?_
    refine g_icmp_eq (tgt := 24) hX dX10_markOf_13 (by decide) (fun h9 => absurd h9 ((by decide))) (fun _ => ?_)
    refine g_iload_n (i := 2) hX dX10_markOf_16 rfl rfl ?_
    refine g_iconst hX dX10_markOf_17 ic3 ?_
    refine sX10_296 hX ⟨Nat.le_of_ble_eq_true rfl, Nat.le_of_ble_eq_true rfl⟩ (Nat.le_of_ble_eq_true rfl) dX10_markOf_18 (c_isOf (q := 3) (by decide) (by decide) (Or.inr ⟨by unfold isK; decide, rfl⟩)) ?_
    refine g_if_eq (tgt := 40) hX dX10_markOf_21 (by decide) (fun _ => ?_) (fun h9 => absurd (rfl) h9)
    refine g_aload_n (i := 0) hX dX10_markOf_40 rfl rfl ?_
    refine g_bipush hX dX10_markOf_41 bp20 ?_
    refine sX10_303 hX ⟨Nat.le_of_ble_eq_true rfl, Nat.le_of_ble_eq_true rfl⟩ (Nat.le_of_ble_eq_true rfl) dX10_markOf_43 (c_began h (by omega)) ?_
    refine g_iload_n (i := 1) hX dX10_markOf_46 rfl rfl ?_
    refine g_iload_n (i := 2) hX dX10_markOf_47 rfl rfl ?_
    refine g_iconst hX dX10_markOf_48 ic2 ?_
    refine g_icmp_ne (tgt := 61) hX dX10_markOf_49 (by decide) (fun _ => ?_) (fun h9 => absurd h9 ((by decide)))
    refine g_iload_n (i := 2) hX dX10_markOf_61 rfl rfl ?_
    refine g_iconst hX dX10_markOf_62 ic3 ?_
    refine sX10_296 hX ⟨Nat.le_of_ble_eq_true rfl, Nat.le_of_ble_eq_true rfl⟩ (Nat.le_of_ble_eq_true rfl) dX10_markOf_63 (c_isOf (q := 3) (by decide) (by decide) (Or.inr ⟨by unfold isK; decide, rfl⟩)) ?_
    refine g_if_eq (tgt := 74) hX dX10_markOf_66 (by decide) (fun _ => ?_) (fun h9 => absurd (rfl) h9)
    refine g_iconst hX dX10_markOf_74 ic0 ?_
    refine g_iadd hX dX10_markOf_75 ?_
    refine g_istore_n (i := 3) hX dX10_markOf_76 rfl (by decide) rfl ?_
    refine g_iload_n (i := 2) hX dX10_markOf_77 rfl rfl ?_
    refine g_iconst hX dX10_markOf_78 ic4 ?_
    refine g_icmp_ne (tgt := 88) hX dX10_markOf_79 (by decide) (fun _ => ?_) (fun h9 => absurd h9 ((by decide)))
    refine g_iload_n (i := 3) hX dX10_markOf_88 rfl rfl ?_
    refine g_iret (st := []) hX hE rfl dX10_markOf_89 (⟨by rw [Int32.add_zero]; rfl, rfl⟩)
theorem c_sizeOf {Γ : GG} {S : St} {k p n : Nat} {w : Nat → Nat → Nat} (hp : p < 4) (h : S.1 67 38 = nI 0) (hn : S.1 71 0 = nI n) (h1 : 1 ≤ k) (h5 : k ≤ 5) (w2 : ∀ p, p < 4 → ∀ i, wLo p ≤ i → i < wHi p → S.1 75 (wOff p + i) = nI (w p i)) (w3 : ∀ p, p < 4 → ∀ i, i < 11 → ¬ (wLo p ≤ i ∧ i < wHi p) → w p i = 0) : kX10_sizeOf Γ [.ref (Γ.1 67), .int (nI p), .int (nI k)] S (rI (szV k (nI p) (nI n) (nI (sumW (w p) 11))) (bgsR S 0 (szL k))) := by
  refine oX10_sizeOf (fun X hX hE => ?_)
  have hs : ∀ T : St, T.1 75 = S.1 75 → kX10_toldSum Γ [.ref (Γ.1 67), .int (nI p)] T (rI (nI (sumW (w p) 11)) T) := fun T e => c_toldSum hp (by rw [e]; exact w2) w3
  rcases (by omega : k = 1 ∨ k = 2 ∨ k = 3 ∨ k = 4 ∨ k = 5) with rfl | rfl | rfl | rfl | rfl
  · refine g_iload_n (i := 2) hX dX10_sizeOf_0 rfl rfl ?_
    refine g_iconst hX dX10_sizeOf_1 ic4 ?_
    refine g_icmp_ne (tgt := 11) hX dX10_sizeOf_2 (by decide) (fun _ => ?_) (fun h9 => absurd h9 ((by decide)))
    refine g_iload_n (i := 2) hX dX10_sizeOf_11 rfl rfl ?_
    refine g_iconst hX dX10_sizeOf_12 ic1 ?_
    refine g_icmp_eq (tgt := 42) hX dX10_sizeOf_13 (by decide) (fun _ => ?_) (fun h9 => absurd (rfl) h9)
    refine g_aload_n (i := 0) hX dX10_sizeOf_42 rfl rfl ?_
    refine g_bipush hX dX10_sizeOf_43 bp10 ?_
    refine sX10_303 hX ⟨Nat.le_of_ble_eq_true rfl, Nat.le_of_ble_eq_true rfl⟩ (Nat.le_of_ble_eq_true rfl) dX10_sizeOf_45 (c_began h (by omega)) ?_
    refine g_aload_n (i := 0) hX dX10_sizeOf_48 rfl rfl ?_
    refine g_iload_n (i := 1) hX dX10_sizeOf_49 rfl rfl ?_
    refine sX10_290 hX ⟨Nat.le_of_ble_eq_true rfl, Nat.le_of_ble_eq_true rfl⟩ (Nat.le_of_ble_eq_true rfl) dX10_sizeOf_50 (hs _ rfl) ?_
    refine g_istore_n (i := 3) hX dX10_sizeOf_53 rfl (by decide) rfl ?_
    refine g_iload_n (i := 2) hX dX10_sizeOf_54 rfl rfl ?_
    refine g_iconst hX dX10_sizeOf_55 ic2 ?_
    refine g_icmp_ne (tgt := 70) hX dX10_sizeOf_56 (by decide) (fun _ => ?_) (fun h9 => absurd h9 ((by decide)))
    refine g_iload_n (i := 2) hX dX10_sizeOf_70 rfl rfl ?_
    refine g_iconst hX dX10_sizeOf_71 ic5 ?_
    refine g_icmp_ne (tgt := 80) hX dX10_sizeOf_72 (by decide) (fun _ => ?_) (fun h9 => absurd h9 ((by decide)))
    refine g_iload_n (i := 2) hX dX10_sizeOf_80 rfl rfl ?_
    refine g_iconst hX dX10_sizeOf_81 ic3 ?_
    refine g_icmp_ne (tgt := 91) hX dX10_sizeOf_82 (by decide) (fun _ => ?_) (fun h9 => absurd h9 ((by decide)))
    refine g_iload_n (i := 2) hX dX10_sizeOf_91 rfl rfl ?_
    refine g_iconst hX dX10_sizeOf_92 ic4 ?_
    refine g_icmp_ne (tgt := 109) hX dX10_sizeOf_93 (by decide) (fun _ => ?_) (fun h9 => absurd h9 ((by decide)))
    refine g_iload_n (i := 3) hX dX10_sizeOf_109 rfl rfl ?_
    refine g_iret (st := []) hX hE rfl dX10_sizeOf_110 (⟨rfl, rfl⟩)
  · refine g_iload_n (i := 2) hX dX10_sizeOf_0 rfl rfl ?_
    refine g_iconst hX dX10_sizeOf_1 ic4 ?_
    refine g_icmp_ne (tgt := 11) hX dX10_sizeOf_2 (by decide) (fun _ => ?_) (fun h9 => absurd h9 ((by decide)))
    refine g_iload_n (i := 2) hX dX10_sizeOf_11 rfl rfl ?_
    refine g_iconst hX dX10_sizeOf_12 ic1 ?_
    refine g_icmp_eq (tgt := 42) hX dX10_sizeOf_13 (by decide) (fun h9 => absurd h9 ((by decide))) (fun _ => ?_)
    refine g_aload_n (i := 0) hX dX10_sizeOf_16 rfl rfl ?_
    refine g_iload_n (i := 2) hX dX10_sizeOf_17 rfl rfl ?_
    refine g_iconst hX dX10_sizeOf_18 ic2 ?_
    refine g_icmp_ne (tgt := 27) hX dX10_sizeOf_19 (by decide) (fun h9 => absurd (rfl) h9) (fun _ => ?_)
    refine g_bipush hX dX10_sizeOf_22 bp11 ?_
    refine g_goto (tgt := 39) hX dX10_sizeOf_24 (by decide) ?_
    refine sX10_303 hX ⟨Nat.le_of_ble_eq_true rfl, Nat.le_of_ble_eq_true rfl⟩ (Nat.le_of_ble_eq_true rfl) dX10_sizeOf_39 (c_began h (by omega)) ?_
    refine g_aload_n (i := 0) hX dX10_sizeOf_42 rfl rfl ?_
    refine g_bipush hX dX10_sizeOf_43 bp10 ?_
    refine sX10_303 hX ⟨Nat.le_of_ble_eq_true rfl, Nat.le_of_ble_eq_true rfl⟩ (Nat.le_of_ble_eq_true rfl) dX10_sizeOf_45 (c_began (bgR_c _ _ _) (by omega)) ?_
    refine g_aload_n (i := 0) hX dX10_sizeOf_48 rfl rfl ?_
    refine g_iload_n (i := 1) hX dX10_sizeOf_49 rfl rfl ?_
    refine sX10_290 hX ⟨Nat.le_of_ble_eq_true rfl, Nat.le_of_ble_eq_true rfl⟩ (Nat.le_of_ble_eq_true rfl) dX10_sizeOf_50 (hs _ rfl) ?_
    refine g_istore_n (i := 3) hX dX10_sizeOf_53 rfl (by decide) rfl ?_
    refine g_iload_n (i := 2) hX dX10_sizeOf_54 rfl rfl ?_
    refine g_iconst hX dX10_sizeOf_55 ic2 ?_
    refine g_icmp_ne (tgt := 70) hX dX10_sizeOf_56 (by decide) (fun h9 => absurd (rfl) h9) (fun _ => ?_)
    refine g_iload_n (i := 3) hX dX10_sizeOf_59 rfl rfl ?_
    refine g_aload_n (i := 0) hX dX10_sizeOf_60 rfl rfl ?_
    refine g_iload_n (i := 1) hX dX10_sizeOf_61 rfl rfl ?_
    refine g_iload_n (i := 2) hX dX10_sizeOf_62 rfl rfl ?_
    refine sX10_306 hX ⟨Nat.le_of_ble_eq_true rfl, Nat.le_of_ble_eq_true rfl⟩ (Nat.le_of_ble_eq_true rfl) dX10_sizeOf_63 (c_markOf (n := n) (t := 2) (bgR_c _ _ _) (by decide) hn (by decide) (by decide)) ?_
    refine g_iadd hX dX10_sizeOf_66 ?_
    refine g_goto (tgt := 110) hX dX10_sizeOf_67 (by decide) ?_
    refine g_iret (st := []) hX hE rfl dX10_sizeOf_110 (⟨rfl, rfl⟩)
  · refine g_iload_n (i := 2) hX dX10_sizeOf_0 rfl rfl ?_
    refine g_iconst hX dX10_sizeOf_1 ic4 ?_
    refine g_icmp_ne (tgt := 11) hX dX10_sizeOf_2 (by decide) (fun _ => ?_) (fun h9 => absurd h9 ((by decide)))
    refine g_iload_n (i := 2) hX dX10_sizeOf_11 rfl rfl ?_
    refine g_iconst hX dX10_sizeOf_12 ic1 ?_
    refine g_icmp_eq (tgt := 42) hX dX10_sizeOf_13 (by decide) (fun h9 => absurd h9 ((by decide))) (fun _ => ?_)
    refine g_aload_n (i := 0) hX dX10_sizeOf_16 rfl rfl ?_
    refine g_iload_n (i := 2) hX dX10_sizeOf_17 rfl rfl ?_
    refine g_iconst hX dX10_sizeOf_18 ic2 ?_
    refine g_icmp_ne (tgt := 27) hX dX10_sizeOf_19 (by decide) (fun _ => ?_) (fun h9 => absurd h9 ((by decide)))
    refine g_iload_n (i := 2) hX dX10_sizeOf_27 rfl rfl ?_
    refine g_iconst hX dX10_sizeOf_28 ic5 ?_
    refine g_icmp_ne (tgt := 37) hX dX10_sizeOf_29 (by decide) (fun _ => ?_) (fun h9 => absurd h9 ((by decide)))
    refine g_bipush hX dX10_sizeOf_37 bp12 ?_
    refine sX10_303 hX ⟨Nat.le_of_ble_eq_true rfl, Nat.le_of_ble_eq_true rfl⟩ (Nat.le_of_ble_eq_true rfl) dX10_sizeOf_39 (c_began h (by omega)) ?_
    refine g_aload_n (i := 0) hX dX10_sizeOf_42 rfl rfl ?_
    refine g_bipush hX dX10_sizeOf_43 bp10 ?_
    refine sX10_303 hX ⟨Nat.le_of_ble_eq_true rfl, Nat.le_of_ble_eq_true rfl⟩ (Nat.le_of_ble_eq_true rfl) dX10_sizeOf_45 (c_began (bgR_c _ _ _) (by omega)) ?_
    refine g_aload_n (i := 0) hX dX10_sizeOf_48 rfl rfl ?_
    refine g_iload_n (i := 1) hX dX10_sizeOf_49 rfl rfl ?_
    refine sX10_290 hX ⟨Nat.le_of_ble_eq_true rfl, Nat.le_of_ble_eq_true rfl⟩ (Nat.le_of_ble_eq_true rfl) dX10_sizeOf_50 (hs _ rfl) ?_
    refine g_istore_n (i := 3) hX dX10_sizeOf_53 rfl (by decide) rfl ?_
    refine g_iload_n (i := 2) hX dX10_sizeOf_54 rfl rfl ?_
    refine g_iconst hX dX10_sizeOf_55 ic2 ?_
    refine g_icmp_ne (tgt := 70) hX dX10_sizeOf_56 (by decide) (fun _ => ?_) (fun h9 => absurd h9 ((by decide)))
    refine g_iload_n (i := 2) hX dX10_sizeOf_70 rfl rfl ?_
    refine g_iconst hX dX10_sizeOf_71 ic5 ?_
    refine g_icmp_ne (tgt := 80) hX dX10_sizeOf_72 (by decide) (fun _ => ?_) (fun h9 => absurd h9 ((by decide)))
    refine g_iload_n (i := 2) hX dX10_sizeOf_80 rfl rfl ?_
    refine g_iconst hX dX10_sizeOf_81 ic3 ?_
    refine g_icmp_ne (tgt := 91) hX dX10_sizeOf_82 (by decide) (fun h9 => absurd (rfl) h9) (fun _ => ?_)
    refine g_iconst hX dX10_sizeOf_85 ic2 ?_
    refine g_iload_n (i := 3) hX dX10_sizeOf_86 rfl rfl ?_
    refine g_imul hX dX10_sizeOf_87 ?_
    refine g_goto (tgt := 110) hX dX10_sizeOf_88 (by decide) ?_
    refine g_iret (st := []) hX hE rfl dX10_sizeOf_110 (⟨rfl, rfl⟩)
  · refine g_iload_n (i := 2) hX dX10_sizeOf_0 rfl rfl ?_
    refine g_iconst hX dX10_sizeOf_1 ic4 ?_
    refine g_icmp_ne (tgt := 11) hX dX10_sizeOf_2 (by decide) (fun h9 => absurd (rfl) h9) (fun _ => ?_)
    refine g_aload_n (i := 0) hX dX10_sizeOf_5 rfl rfl ?_
    refine g_bipush hX dX10_sizeOf_6 bp13 ?_
    refine sX10_303 hX ⟨Nat.le_of_ble_eq_true rfl, Nat.le_of_ble_eq_true rfl⟩ (Nat.le_of_ble_eq_true rfl) dX10_sizeOf_8 (c_began h (by omega)) ?_
    refine g_iload_n (i := 2) hX dX10_sizeOf_11 rfl rfl ?_
    refine g_iconst hX dX10_sizeOf_12 ic1 ?_
    refine g_icmp_eq (tgt := 42) hX dX10_sizeOf_13 (by decide) (fun h9 => absurd h9 ((by decide))) (fun _ => ?_)
    refine g_aload_n (i := 0) hX dX10_sizeOf_16 rfl rfl ?_
    refine g_iload_n (i := 2) hX dX10_sizeOf_17 rfl rfl ?_
    refine g_iconst hX dX10_sizeOf_18 ic2 ?_
    refine g_icmp_ne (tgt := 27) hX dX10_sizeOf_19 (by decide) (fun _ => ?_) (fun h9 => absurd h9 ((by decide)))
    refine g_iload_n (i := 2) hX dX10_sizeOf_27 rfl rfl ?_
    refine g_iconst hX dX10_sizeOf_28 ic5 ?_
    refine g_icmp_ne (tgt := 37) hX dX10_sizeOf_29 (by decide) (fun _ => ?_) (fun h9 => absurd h9 ((by decide)))
    refine g_bipush hX dX10_sizeOf_37 bp12 ?_
    refine sX10_303 hX ⟨Nat.le_of_ble_eq_true rfl, Nat.le_of_ble_eq_true rfl⟩ (Nat.le_of_ble_eq_true rfl) dX10_sizeOf_39 (c_began (bgR_c _ _ _) (by omega)) ?_
    refine g_aload_n (i := 0) hX dX10_sizeOf_42 rfl rfl ?_
    refine g_bipush hX dX10_sizeOf_43 bp10 ?_
    refine sX10_303 hX ⟨Nat.le_of_ble_eq_true rfl, Nat.le_of_ble_eq_true rfl⟩ (Nat.le_of_ble_eq_true rfl) dX10_sizeOf_45 (c_began (bgR_c _ _ _) (by omega)) ?_
    refine g_aload_n (i := 0) hX dX10_sizeOf_48 rfl rfl ?_
    refine g_iload_n (i := 1) hX dX10_sizeOf_49 rfl rfl ?_
    refine sX10_290 hX ⟨Nat.le_of_ble_eq_true rfl, Nat.le_of_ble_eq_true rfl⟩ (Nat.le_of_ble_eq_true rfl) dX10_sizeOf_50 (hs _ rfl) ?_
    refine g_istore_n (i := 3) hX dX10_sizeOf_53 rfl (by decide) rfl ?_
    refine g_iload_n (i := 2) hX dX10_sizeOf_54 rfl rfl ?_
    refine g_iconst hX dX10_sizeOf_55 ic2 ?_
    refine g_icmp_ne (tgt := 70) hX dX10_sizeOf_56 (by decide) (fun _ => ?_) (fun h9 => absurd h9 ((by decide)))
    refine g_iload_n (i := 2) hX dX10_sizeOf_70 rfl rfl ?_
    refine g_iconst hX dX10_sizeOf_71 ic5 ?_
    refine g_icmp_ne (tgt := 80) hX dX10_sizeOf_72 (by decide) (fun _ => ?_) (fun h9 => absurd h9 ((by decide)))
    refine g_iload_n (i := 2) hX dX10_sizeOf_80 rfl rfl ?_
    refine g_iconst hX dX10_sizeOf_81 ic3 ?_
    refine g_icmp_ne (tgt := 91) hX dX10_sizeOf_82 (by decide) (fun _ => ?_) (fun h9 => absurd h9 ((by decide)))
    refine g_iload_n (i := 2) hX dX10_sizeOf_91 rfl rfl ?_
    refine g_iconst hX dX10_sizeOf_92 ic4 ?_
    refine g_icmp_ne (tgt := 109) hX dX10_sizeOf_93 (by decide) (fun h9 => absurd (rfl) h9) (fun _ => ?_)
    refine g_iconst hX dX10_sizeOf_96 ic2 ?_
    refine g_iload_n (i := 3) hX dX10_sizeOf_97 rfl rfl ?_
    refine g_imul hX dX10_sizeOf_98 ?_
    refine g_aload_n (i := 0) hX dX10_sizeOf_99 rfl rfl ?_
    refine g_iload_n (i := 1) hX dX10_sizeOf_100 rfl rfl ?_
    refine g_iload_n (i := 2) hX dX10_sizeOf_101 rfl rfl ?_
    refine sX10_306 hX ⟨Nat.le_of_ble_eq_true rfl, Nat.le_of_ble_eq_true rfl⟩ (Nat.le_of_ble_eq_true rfl) dX10_sizeOf_102 (c_markOf (n := n) (t := 3) (bgR_c _ _ _) (by decide) hn (by decide) (by decide)) ?_
    refine g_isub hX dX10_sizeOf_105 ?_
    refine g_goto (tgt := 110) hX dX10_sizeOf_106 (by decide) ?_
    refine g_iret (st := []) hX hE rfl dX10_sizeOf_110 (⟨rfl, rfl⟩)
  · refine g_iload_n (i := 2) hX dX10_sizeOf_0 rfl rfl ?_
    refine g_iconst hX dX10_sizeOf_1 ic4 ?_
    refine g_icmp_ne (tgt := 11) hX dX10_sizeOf_2 (by decide) (fun _ => ?_) (fun h9 => absurd h9 ((by decide)))
    refine g_iload_n (i := 2) hX dX10_sizeOf_11 rfl rfl ?_
    refine g_iconst hX dX10_sizeOf_12 ic1 ?_
    refine g_icmp_eq (tgt := 42) hX dX10_sizeOf_13 (by decide) (fun h9 => absurd h9 ((by decide))) (fun _ => ?_)
    refine g_aload_n (i := 0) hX dX10_sizeOf_16 rfl rfl ?_
    refine g_iload_n (i := 2) hX dX10_sizeOf_17 rfl rfl ?_
    refine g_iconst hX dX10_sizeOf_18 ic2 ?_
    refine g_icmp_ne (tgt := 27) hX dX10_sizeOf_19 (by decide) (fun _ => ?_) (fun h9 => absurd h9 ((by decide)))
    refine g_iload_n (i := 2) hX dX10_sizeOf_27 rfl rfl ?_
    refine g_iconst hX dX10_sizeOf_28 ic5 ?_
    refine g_icmp_ne (tgt := 37) hX dX10_sizeOf_29 (by decide) (fun h9 => absurd (rfl) h9) (fun _ => ?_)
    refine g_bipush hX dX10_sizeOf_32 bp14 ?_
    refine g_goto (tgt := 39) hX dX10_sizeOf_34 (by decide) ?_
    refine sX10_303 hX ⟨Nat.le_of_ble_eq_true rfl, Nat.le_of_ble_eq_true rfl⟩ (Nat.le_of_ble_eq_true rfl) dX10_sizeOf_39 (c_began h (by omega)) ?_
    refine g_aload_n (i := 0) hX dX10_sizeOf_42 rfl rfl ?_
    refine g_bipush hX dX10_sizeOf_43 bp10 ?_
    refine sX10_303 hX ⟨Nat.le_of_ble_eq_true rfl, Nat.le_of_ble_eq_true rfl⟩ (Nat.le_of_ble_eq_true rfl) dX10_sizeOf_45 (c_began (bgR_c _ _ _) (by omega)) ?_
    refine g_aload_n (i := 0) hX dX10_sizeOf_48 rfl rfl ?_
    refine g_iload_n (i := 1) hX dX10_sizeOf_49 rfl rfl ?_
    refine sX10_290 hX ⟨Nat.le_of_ble_eq_true rfl, Nat.le_of_ble_eq_true rfl⟩ (Nat.le_of_ble_eq_true rfl) dX10_sizeOf_50 (hs _ rfl) ?_
    refine g_istore_n (i := 3) hX dX10_sizeOf_53 rfl (by decide) rfl ?_
    refine g_iload_n (i := 2) hX dX10_sizeOf_54 rfl rfl ?_
    refine g_iconst hX dX10_sizeOf_55 ic2 ?_
    refine g_icmp_ne (tgt := 70) hX dX10_sizeOf_56 (by decide) (fun _ => ?_) (fun h9 => absurd h9 ((by decide)))
    refine g_iload_n (i := 2) hX dX10_sizeOf_70 rfl rfl ?_
    refine g_iconst hX dX10_sizeOf_71 ic5 ?_
    refine g_icmp_ne (tgt := 80) hX dX10_sizeOf_72 (by decide) (fun h9 => absurd (rfl) h9) (fun _ => ?_)
    refine g_iload_n (i := 3) hX dX10_sizeOf_75 rfl rfl ?_
    refine g_ineg hX dX10_sizeOf_76 ?_
    refine g_goto (tgt := 110) hX dX10_sizeOf_77 (by decide) ?_
    refine g_iret (st := []) hX hE rfl dX10_sizeOf_110 (⟨rfl, rfl⟩)
theorem mk_len : ∀ k, k < 6 → (mkL k).length ≤ 16 ∧ (szL k).length ≤ 16 := by decide
/-- the traces are the same -/
theorem ask_rel {S S1 : St} {L : List Int32} (hR : Rel S) (hL : L.length ≤ 16) (hF : Fq [64] [(63, 1), (63, 2), (63, 3), (63, 4), (63, 5)] S S1) (hc : S1.1 63 1 = nI L.length) (h64 : ∀ i, i < L.length → S1.1 64 i = L.getD i 0) : Rel (bgsR (pI (S0 S1) 67 38 0) 0 L) := by
  have hF2 : Fq [64, 85] [(63, 1), (63, 2), (63, 3), (63, 4), (63, 5), (67, 0), (67, 38)] S (bgsR (pI (S0 S1) 67 38 0) 0 L) :=
    ((hF.mono (by decide) (by decide)).I (by decide)).I (by decide) |>.tr ((bgsR_F L _ 0).mono (by decide) (by decide))
  obtain ⟨r1, r2, r3, r4, r5, r6, r7, r8, r9⟩ := hR
  refine ⟨r1.q hF2 (by decide), r2.q hF2 (by decide), r3.q hF2 (by decide), r4.q hF2 (by decide), r5.q hF2 (by decide), r6.q hF2 (by decide), r7.q hF2 (by decide), r8.q hF2 (by decide), L.length, hL, ?_, ?_, fun j hj => ?_⟩
  · rw [((bgsR_F L _ 0).s (k := 63) (j := 1) (by decide)).1]; exact hc
  · rw [bgsR_n L _ 0 rfl, Nat.zero_add]
  · rw [(bgsR_F L _ 0).r (k := 64) (by decide)]
    have h2 := bgsR_at L (pI (S0 S1) 67 38 0) 0 j hj
    rw [Nat.zero_add] at h2
    rw [h2]
    exact h64 j hj
theorem step_ask {Γ : GG} (x1 x2 : Int32) : Step (fun S P => kX9_ask Γ [.ref (Γ.1 48), .int x1, .int x2] S P) (fun S P => kX10_ask Γ [.ref (Γ.1 67), .int x1, .int x2] S P) := by
  intro S hR
  by_cases h1 : inB x1 4
  case neg =>
    refine ⟨-1000001, fun S1 => S1 = S, ?_, ?_⟩
    · refine oX9_ask (fun X hX hE => ?_)
      refine g_iload_n (i := 1) hX dX9_ask_0 rfl rfl ?_
      refine g_iconst hX dX9_ask_1 ic4 ?_
      refine sX9_96 hX ⟨Nat.le_of_ble_eq_true rfl, Nat.le_of_ble_eq_true rfl⟩ (Nat.le_of_ble_eq_true rfl) dX9_ask_2 (isB_f (n := 4) (by decide) h1) ?_
      refine g_if_eq (tgt := 16) hX dX9_ask_5 (by decide) (fun _ => ?_) (fun h9 => absurd (rfl) h9)
      refine g_ldc hX ccX9_100 dX9_ask_16 ?_
      refine g_iret (st := []) hX hE rfl dX9_ask_18 (⟨_, rfl, rfl, rfl⟩)
    · rintro S1 rfl
      refine oX10_ask (fun X hX hE => ?_)
      refine g_aload_n (i := 0) hX dX10_ask_0 rfl rfl ?_
      refine g_iconst hX dX10_ask_1 ic0 ?_
      refine pX10_78 hX dX10_ask_2 ?_
      refine g_iload_n (i := 1) hX dX10_ask_5 rfl rfl ?_
      refine sX10_202 hX ⟨Nat.le_of_ble_eq_true rfl, Nat.le_of_ble_eq_true rfl⟩ (Nat.le_of_ble_eq_true rfl) dX10_ask_6 (c_isPart_f h1) ?_
      refine g_if_eq (tgt := 22) hX dX10_ask_9 (by decide) (fun _ => ?_) (fun h9 => absurd (rfl) h9)
      refine g_ldc hX ccX10_97 dX10_ask_22 ?_
      refine g_iret (st := []) hX hE rfl dX10_ask_24 (⟨_, rfl, rfl, hR.thrown⟩)
  obtain ⟨p, hp, rfl⟩ := h1
  by_cases h2 : inB x2 2
  case neg =>
    refine ⟨-1000001, fun S1 => S1 = S, ?_, ?_⟩
    · refine oX9_ask (fun X hX hE => ?_)
      refine g_iload_n (i := 1) hX dX9_ask_0 rfl rfl ?_
      refine g_iconst hX dX9_ask_1 ic4 ?_
      refine sX9_96 hX ⟨Nat.le_of_ble_eq_true rfl, Nat.le_of_ble_eq_true rfl⟩ (Nat.le_of_ble_eq_true rfl) dX9_ask_2 (isB_t (n := 4) hp (by decide)) ?_
      refine g_if_eq (tgt := 16) hX dX9_ask_5 (by decide) (fun h9 => absurd h9 ((by decide))) (fun _ => ?_)
      refine g_iload_n (i := 2) hX dX9_ask_8 rfl rfl ?_
      refine g_iconst hX dX9_ask_9 ic2 ?_
      refine sX9_96 hX ⟨Nat.le_of_ble_eq_true rfl, Nat.le_of_ble_eq_true rfl⟩ (Nat.le_of_ble_eq_true rfl) dX9_ask_10 (isB_f (n := 2) (by decide) h2) ?_
      refine g_if_ne (tgt := 19) hX dX9_ask_13 (by decide) (fun h9 => absurd (rfl) h9) (fun _ => ?_)
      refine g_ldc hX ccX9_100 dX9_ask_16 ?_
      refine g_iret (st := []) hX hE rfl dX9_ask_18 (⟨_, rfl, rfl, rfl⟩)
    · rintro S1 rfl
      refine oX10_ask (fun X hX hE => ?_)
      rw [inB_iff (by decide)] at h2
      refine g_aload_n (i := 0) hX dX10_ask_0 rfl rfl ?_
      refine g_iconst hX dX10_ask_1 ic0 ?_
      refine pX10_78 hX dX10_ask_2 ?_
      refine g_iload_n (i := 1) hX dX10_ask_5 rfl rfl ?_
      refine sX10_202 hX ⟨Nat.le_of_ble_eq_true rfl, Nat.le_of_ble_eq_true rfl⟩ (Nat.le_of_ble_eq_true rfl) dX10_ask_6 (c_isPart_t hp) ?_
      refine g_if_eq (tgt := 22) hX dX10_ask_9 (by decide) (fun h9 => absurd h9 ((by decide))) (fun _ => ?_)
      refine g_iload_n (i := 2) hX dX10_ask_12 rfl rfl ?_
      refine g_i2l hX dX10_ask_13 ?_
      refine g_lconst (v := 0) hX dX10_ask_14 (by decide) ?_
      refine g_lconst (v := 1) hX dX10_ask_15 (by decide) ?_
      refine sX10_87 hX ⟨Nat.le_of_ble_eq_true rfl, Nat.le_of_ble_eq_true rfl⟩ (Nat.le_of_ble_eq_true rfl) dX10_ask_16 (c_inI_f (by rw [L0, show (1 : Int64).toInt = 1 by decide]; omega)) ?_
      refine g_if_ne (tgt := 25) hX dX10_ask_19 (by decide) (fun h9 => absurd (rfl) h9) (fun _ => ?_)
      refine g_ldc hX ccX10_97 dX10_ask_22 ?_
      refine g_iret (st := []) hX hE rfl dX10_ask_24 (⟨_, rfl, rfl, hR.thrown⟩)
  obtain ⟨j, hj, rfl⟩ := h2
  have hwt := hR.2.2.2.1
  obtain ⟨w, w1, w2, w3, w4⟩ := hwt
  have ho := (hR.2.2.2.2.1.1 p hp).1
  have hk := kdV_le (S.1 55 p) w hp
  have htr := hR.2.1
  obtain ⟨n, tk, nm, gr, a, b, -⟩ := htr
  have c1 : ∀ T : St, kX10_in Γ [.long (nI j).toInt64, .long 0, .long 1] T (rI 1 T) := fun T => c_inI_t (by rw [nI_toInt (by omega), L0]; omega) (by rw [nI_toInt (by omega), show (1 : Int64).toInt = 1 by decide]; omega)
  have hia := iaW p hp
  have hsum : sumN (S.1 (36 + p)) 11 = nI (sumW (w p) 11) := sumN_nI 11 (fun i hi => (w1 p hp i hi).1)
  have hbeg : kX0_begin Γ [.ref (Γ.1 63), .int (nI p), .ref (Γ.1 53), .int (S.1 16 4)] S (rV (pI (pI (pI (pI (pI S 63 1 0) 63 2 (nI p)) 63 3 (nI (kdV (S.1 55 p) w p))) 63 4 (nI (sumW (w p) 11))) 63 5 (nI n))) := by
    refine oX0_begin (fun X hX hE => ?_)
    have hk2 : kX5_kindOf Γ [.ref (Γ.1 53), .int (nI p)] (pI (pI S 63 1 0) 63 2 (nI p)) (rI (nI (kdV (S.1 55 p) w p)) (pI (pI S 63 1 0) 63 2 (nI p))) := c_kindOf (S := pI (pI S 63 1 0) 63 2 (nI p)) hp (fun q hq => by rw [pR_ne _ _ (by omega), pR_ne _ _ (by omega)]; exact w1 q hq)
    have hs2 : kX9_sumOf Γ [.ref (Γ.1 (36 + p))] (pI (pI (pI S 63 1 0) 63 2 (nI p)) 63 3 (nI (kdV (S.1 55 p) w p))) (rI (nI (sumW (w p) 11)) (pI (pI (pI S 63 1 0) 63 2 (nI p)) 63 3 (nI (kdV (S.1 55 p) w p)))) := by
      have h9 := c_sumOf (Γ := Γ) (S := pI (pI (pI S 63 1 0) 63 2 (nI p)) 63 3 (nI (kdV (S.1 55 p) w p))) hia (by decide)
      rw [lowR (by omega) (by omega) (by omega), hsum] at h9
      exact h9
    refine g_aload_n (i := 0) hX dX0_begin_0 rfl rfl ?_
    refine g_iconst hX dX0_begin_1 ic0 ?_
    refine pX0_15 hX dX0_begin_2 ?_
    refine g_aload_n (i := 0) hX dX0_begin_5 rfl rfl ?_
    refine g_iload_n (i := 1) hX dX0_begin_6 rfl rfl ?_
    refine pX0_19 hX dX0_begin_7 ?_
    refine g_aload_n (i := 0) hX dX0_begin_10 rfl rfl ?_
    refine g_aload_n (i := 2) hX dX0_begin_11 rfl rfl ?_
    refine g_iload_n (i := 1) hX dX0_begin_12 rfl rfl ?_
    refine sX0_31 hX ⟨Nat.le_of_ble_eq_true rfl, Nat.le_of_ble_eq_true rfl⟩ (Nat.le_of_ble_eq_true rfl) dX0_begin_13 (hk2) ?_
    refine pX0_22 hX dX0_begin_16 ?_
    refine g_aload_n (i := 0) hX dX0_begin_19 rfl rfl ?_
    refine g_aload_n (i := 2) hX dX0_begin_20 rfl rfl ?_
    refine fX0_37 hX dX0_begin_21 ?_
    refine g_iload_n (i := 1) hX dX0_begin_24 rfl rfl ?_
    refine g_aaloadN hX (show 54 < NC by decide) (Or.inr rfl) (show lay 54 = (3, 4, [36, 37, 38, 39]) by decide) rfl (hp) (by decide) (waa p hp) dX0_begin_25 ?_
    refine sX0_41 hX ⟨Nat.le_of_ble_eq_true rfl, Nat.le_of_ble_eq_true rfl⟩ (Nat.le_of_ble_eq_true rfl) dX0_begin_26 (hs2) ?_
    refine pX0_25 hX dX0_begin_29 ?_
    refine g_aload_n (i := 0) hX dX0_begin_32 rfl rfl ?_
    refine g_iload_n (i := 3) hX dX0_begin_33 rfl rfl ?_
    refine pX0_28 hX dX0_begin_34 ?_
    refine g_vret (st := []) hX hE rfl dX0_begin_37 (⟨rfl, by rw [a.2.1]⟩)
  generalize hSb : pI (pI (pI (pI (pI S 63 1 0) 63 2 (nI p)) 63 3 (nI (kdV (S.1 55 p) w p))) 63 4 (nI (sumW (w p) 11))) 63 5 (nI n) = Sb at hbeg
  have b1 : Sb.1 63 1 = nI 0 := by rw [← hSb]; rfl
  have b2 : Sb.1 63 2 = nI p := by rw [← hSb]; rfl
  have b3 : Sb.1 63 3 = nI (kdV (S.1 55 p) w p) := by rw [← hSb]; rfl
  have b4 : Sb.1 63 4 = nI (sumW (w p) 11) := by rw [← hSb]; rfl
  have b5 : Sb.1 63 5 = nI n := by rw [← hSb]; rfl
  have hFb : Fq [64] [(63, 1), (63, 2), (63, 3), (63, 4), (63, 5)] S Sb := by rw [← hSb]; exact ((((Fq.rf.I (by decide)).I (by decide)).I (by decide)).I (by decide)).I (by decide)
  clear hSb
  have hlen := mk_len (kdV (S.1 55 p) w p) (by omega)
  generalize hkk : kdV (S.1 55 p) w p = k at *
  rcases (by omega : j = 0 ∨ j = 1) with rfl | rfl
  · refine ⟨szV k (nI p) (nI n) (nI (sumW (w p) 11)), fun S1 => S1 = bgs Sb 0 (szL k), ?_, ?_⟩
    · refine oX9_ask (fun X hX hE => ?_)
      have hz := c_askSize (Γ := Γ) b1 b3 hk.1 hk.2
      rw [b2, b4, b5] at hz
      refine g_iload_n (i := 1) hX dX9_ask_0 rfl rfl ?_
      refine g_iconst hX dX9_ask_1 ic4 ?_
      refine sX9_96 hX ⟨Nat.le_of_ble_eq_true rfl, Nat.le_of_ble_eq_true rfl⟩ (Nat.le_of_ble_eq_true rfl) dX9_ask_2 (isB_t (n := 4) hp (by decide)) ?_
      refine g_if_eq (tgt := 16) hX dX9_ask_5 (by decide) (fun h9 => absurd h9 ((by decide))) (fun _ => ?_)
      refine g_iload_n (i := 2) hX dX9_ask_8 rfl rfl ?_
      refine g_iconst hX dX9_ask_9 ic2 ?_
      refine sX9_96 hX ⟨Nat.le_of_ble_eq_true rfl, Nat.le_of_ble_eq_true rfl⟩ (Nat.le_of_ble_eq_true rfl) dX9_ask_10 (isB_t (n := 2) hj (by decide)) ?_
      refine g_if_ne (tgt := 19) hX dX9_ask_13 (by decide) (fun _ => ?_) (fun h9 => absurd h9 ((by decide)))
      refine g_aload_n (i := 0) hX dX9_ask_19 rfl rfl ?_
      refine fX9_66 hX dX9_ask_20 ?_
      refine g_iload_n (i := 1) hX dX9_ask_23 rfl rfl ?_
      refine g_aload_n (i := 0) hX dX9_ask_24 rfl rfl ?_
      refine fX9_38 hX dX9_ask_25 ?_
      refine g_aload_n (i := 0) hX dX9_ask_28 rfl rfl ?_
      refine fX9_18 hX dX9_ask_29 ?_
      refine fX9_137 hX ir16 dX9_ask_32 ?_
      refine sX9_267 hX ⟨Nat.le_of_ble_eq_true rfl, Nat.le_of_ble_eq_true rfl⟩ (Nat.le_of_ble_eq_true rfl) dX9_ask_35 (hbeg) ?_
      refine g_iload_n (i := 2) hX dX9_ask_38 rfl rfl ?_
      refine g_if_ne (tgt := 52) hX dX9_ask_39 (by decide) (fun h9 => absurd (rfl) h9) (fun _ => ?_)
      refine g_aload_n (i := 0) hX dX9_ask_42 rfl rfl ?_
      refine fX9_66 hX dX9_ask_43 ?_
      refine sX9_270 hX ⟨Nat.le_of_ble_eq_true rfl, Nat.le_of_ble_eq_true rfl⟩ (Nat.le_of_ble_eq_true rfl) dX9_ask_46 (hz) ?_
      refine g_goto (tgt := 59) hX dX9_ask_49 (by decide) ?_
      refine g_iret (st := []) hX hE rfl dX9_ask_59 (⟨_, rfl, rfl, rfl⟩)
    · rintro S1 rfl
      have hF1 : Fq [64] [(63, 1), (63, 2), (63, 3), (63, 4), (63, 5)] S (bgs Sb 0 (szL k)) := hFb.tr ((bgs_F (szL k) Sb 0).mono (by decide) (by decide))
      have e75 : (bgs Sb 0 (szL k)).1 75 = S.1 75 := hF1.r (by decide)
      have e77 : (bgs Sb 0 (szL k)).1 77 = S.1 77 := hF1.r (by decide)
      have e71 : (bgs Sb 0 (szL k)).1 71 = S.1 71 := hF1.r (by decide)
      have hn1 := bgs_n (szL k) Sb 0 b1
      rw [Nat.zero_add] at hn1
      have hat : ∀ i, i < (szL k).length → (bgs Sb 0 (szL k)).1 64 i = (szL k).getD i 0 := fun i hi => by have := bgs_at (szL k) Sb 0 i hi; rw [Nat.zero_add] at this; exact this
      generalize bgs Sb 0 (szL k) = S1 at *
      refine oX10_ask (fun X hX hE => ?_)
      have hkr : kX10_kindOf Γ [.ref (Γ.1 67), .int (nI p)] (pI (S0 S1) 67 38 0) (rI (nI k) (pI (S0 S1) 67 38 0)) := by
        have h9 := c_kindOfR (Γ := Γ) (S := pI (S0 S1) 67 38 0) (w := w) hp (fun p hp i hi => (w1 p hp i hi).2) (by show ∀ p, p < 4 → ∀ i, wLo p ≤ i → i < wHi p → S1.1 75 (wOff p + i) = nI (w p i); rw [e75]; exact w2) w3
        rw [show (pI (S0 S1) 67 38 0).1 77 p = S.1 55 p from by show S1.1 77 p = _; rw [e77, ho], hkk] at h9
        exact h9
      have hsz := c_sizeOf (Γ := Γ) (S := pI (S0 S1) 67 38 0) (k := k) (n := n) (w := w) hp rfl (by show S1.1 71 0 = _; rw [e71]; exact b.1) hk.1 hk.2 (by show ∀ p, p < 4 → ∀ i, wLo p ≤ i → i < wHi p → S1.1 75 (wOff p + i) = nI (w p i); rw [e75]; exact w2) w3
      refine g_aload_n (i := 0) hX dX10_ask_0 rfl rfl ?_
      refine g_iconst hX dX10_ask_1 ic0 ?_
      refine pX10_78 hX dX10_ask_2 ?_
      refine g_iload_n (i := 1) hX dX10_ask_5 rfl rfl ?_
      refine sX10_202 hX ⟨Nat.le_of_ble_eq_true rfl, Nat.le_of_ble_eq_true rfl⟩ (Nat.le_of_ble_eq_true rfl) dX10_ask_6 (c_isPart_t hp) ?_
      refine g_if_eq (tgt := 22) hX dX10_ask_9 (by decide) (fun h9 => absurd h9 ((by decide))) (fun _ => ?_)
      refine g_iload_n (i := 2) hX dX10_ask_12 rfl rfl ?_
      refine g_i2l hX dX10_ask_13 ?_
      refine g_lconst (v := 0) hX dX10_ask_14 (by decide) ?_
      refine g_lconst (v := 1) hX dX10_ask_15 (by decide) ?_
      refine sX10_87 hX ⟨Nat.le_of_ble_eq_true rfl, Nat.le_of_ble_eq_true rfl⟩ (Nat.le_of_ble_eq_true rfl) dX10_ask_16 (c1 _) ?_
      refine g_if_ne (tgt := 25) hX dX10_ask_19 (by decide) (fun _ => ?_) (fun h9 => absurd h9 ((by decide)))
      refine g_aload_n (i := 0) hX dX10_ask_25 rfl rfl ?_
      refine g_iconst hX dX10_ask_26 ic0 ?_
      refine pX10_300 hX dX10_ask_27 ?_
      refine g_iload_n (i := 2) hX dX10_ask_30 rfl rfl ?_
      refine g_if_ne (tgt := 47) hX dX10_ask_31 (by decide) (fun h9 => absurd (rfl) h9) (fun _ => ?_)
      refine g_aload_n (i := 0) hX dX10_ask_34 rfl rfl ?_
      refine g_iload_n (i := 1) hX dX10_ask_35 rfl rfl ?_
      refine g_aload_n (i := 0) hX dX10_ask_36 rfl rfl ?_
      refine g_iload_n (i := 1) hX dX10_ask_37 rfl rfl ?_
      refine sX10_293 hX ⟨Nat.le_of_ble_eq_true rfl, Nat.le_of_ble_eq_true rfl⟩ (Nat.le_of_ble_eq_true rfl) dX10_ask_38 (hkr) ?_
      refine sX10_309 hX ⟨Nat.le_of_ble_eq_true rfl, Nat.le_of_ble_eq_true rfl⟩ (Nat.le_of_ble_eq_true rfl) dX10_ask_41 (hsz) ?_
      refine g_goto (tgt := 57) hX dX10_ask_44 (by decide) ?_
      refine g_iret (st := []) hX hE rfl dX10_ask_57 (⟨_, rfl, rfl, ask_rel hR hlen.2 hF1 hn1 hat⟩)
  · refine ⟨mkV k (nI p) (nI n), fun S1 => S1 = bgs Sb 0 (mkL k), ?_, ?_⟩
    · refine oX9_ask (fun X hX hE => ?_)
      have hz := c_askMark (Γ := Γ) (t := 0) b1 (by decide) b3 hk.1 hk.2
      rw [b2, b5] at hz
      refine g_iload_n (i := 1) hX dX9_ask_0 rfl rfl ?_
      refine g_iconst hX dX9_ask_1 ic4 ?_
      refine sX9_96 hX ⟨Nat.le_of_ble_eq_true rfl, Nat.le_of_ble_eq_true rfl⟩ (Nat.le_of_ble_eq_true rfl) dX9_ask_2 (isB_t (n := 4) hp (by decide)) ?_
      refine g_if_eq (tgt := 16) hX dX9_ask_5 (by decide) (fun h9 => absurd h9 ((by decide))) (fun _ => ?_)
      refine g_iload_n (i := 2) hX dX9_ask_8 rfl rfl ?_
      refine g_iconst hX dX9_ask_9 ic2 ?_
      refine sX9_96 hX ⟨Nat.le_of_ble_eq_true rfl, Nat.le_of_ble_eq_true rfl⟩ (Nat.le_of_ble_eq_true rfl) dX9_ask_10 (isB_t (n := 2) hj (by decide)) ?_
      refine g_if_ne (tgt := 19) hX dX9_ask_13 (by decide) (fun _ => ?_) (fun h9 => absurd h9 ((by decide)))
      refine g_aload_n (i := 0) hX dX9_ask_19 rfl rfl ?_
      refine fX9_66 hX dX9_ask_20 ?_
      refine g_iload_n (i := 1) hX dX9_ask_23 rfl rfl ?_
      refine g_aload_n (i := 0) hX dX9_ask_24 rfl rfl ?_
      refine fX9_38 hX dX9_ask_25 ?_
      refine g_aload_n (i := 0) hX dX9_ask_28 rfl rfl ?_
      refine fX9_18 hX dX9_ask_29 ?_
      refine fX9_137 hX ir16 dX9_ask_32 ?_
      refine sX9_267 hX ⟨Nat.le_of_ble_eq_true rfl, Nat.le_of_ble_eq_true rfl⟩ (Nat.le_of_ble_eq_true rfl) dX9_ask_35 (hbeg) ?_
      refine g_iload_n (i := 2) hX dX9_ask_38 rfl rfl ?_
      refine g_if_ne (tgt := 52) hX dX9_ask_39 (by decide) (fun _ => ?_) (fun h9 => absurd h9 ((by decide)))
      refine g_aload_n (i := 0) hX dX9_ask_52 rfl rfl ?_
      refine fX9_66 hX dX9_ask_53 ?_
      refine sX9_273 hX ⟨Nat.le_of_ble_eq_true rfl, Nat.le_of_ble_eq_true rfl⟩ (Nat.le_of_ble_eq_true rfl) dX9_ask_56 (hz) ?_
      refine g_iret (st := []) hX hE rfl dX9_ask_59 (⟨_, rfl, rfl, rfl⟩)
    · rintro S1 rfl
      have hF1 : Fq [64] [(63, 1), (63, 2), (63, 3), (63, 4), (63, 5)] S (bgs Sb 0 (mkL k)) := hFb.tr ((bgs_F (mkL k) Sb 0).mono (by decide) (by decide))
      have e75 : (bgs Sb 0 (mkL k)).1 75 = S.1 75 := hF1.r (by decide)
      have e77 : (bgs Sb 0 (mkL k)).1 77 = S.1 77 := hF1.r (by decide)
      have e71 : (bgs Sb 0 (mkL k)).1 71 = S.1 71 := hF1.r (by decide)
      have hn1 := bgs_n (mkL k) Sb 0 b1
      rw [Nat.zero_add] at hn1
      have hat : ∀ i, i < (mkL k).length → (bgs Sb 0 (mkL k)).1 64 i = (mkL k).getD i 0 := fun i hi => by have := bgs_at (mkL k) Sb 0 i hi; rw [Nat.zero_add] at this; exact this
      generalize bgs Sb 0 (mkL k) = S1 at *
      refine oX10_ask (fun X hX hE => ?_)
      have hkr : kX10_kindOf Γ [.ref (Γ.1 67), .int (nI p)] (pI (S0 S1) 67 38 0) (rI (nI k) (pI (S0 S1) 67 38 0)) := by
        have h9 := c_kindOfR (Γ := Γ) (S := pI (S0 S1) 67 38 0) (w := w) hp (fun p hp i hi => (w1 p hp i hi).2) (by show ∀ p, p < 4 → ∀ i, wLo p ≤ i → i < wHi p → S1.1 75 (wOff p + i) = nI (w p i); rw [e75]; exact w2) w3
        rw [show (pI (S0 S1) 67 38 0).1 77 p = S.1 55 p from by show S1.1 77 p = _; rw [e77, ho], hkk] at h9
        exact h9
      have hsz := c_markOf (Γ := Γ) (S := pI (S0 S1) 67 38 0) (t := 0) (k := k) (p := p) (n := n) rfl (by decide) (by show S1.1 71 0 = _; rw [e71]; exact b.1) hk.1 hk.2
      refine g_aload_n (i := 0) hX dX10_ask_0 rfl rfl ?_
      refine g_iconst hX dX10_ask_1 ic0 ?_
      refine pX10_78 hX dX10_ask_2 ?_
      refine g_iload_n (i := 1) hX dX10_ask_5 rfl rfl ?_
      refine sX10_202 hX ⟨Nat.le_of_ble_eq_true rfl, Nat.le_of_ble_eq_true rfl⟩ (Nat.le_of_ble_eq_true rfl) dX10_ask_6 (c_isPart_t hp) ?_
      refine g_if_eq (tgt := 22) hX dX10_ask_9 (by decide) (fun h9 => absurd h9 ((by decide))) (fun _ => ?_)
      refine g_iload_n (i := 2) hX dX10_ask_12 rfl rfl ?_
      refine g_i2l hX dX10_ask_13 ?_
      refine g_lconst (v := 0) hX dX10_ask_14 (by decide) ?_
      refine g_lconst (v := 1) hX dX10_ask_15 (by decide) ?_
      refine sX10_87 hX ⟨Nat.le_of_ble_eq_true rfl, Nat.le_of_ble_eq_true rfl⟩ (Nat.le_of_ble_eq_true rfl) dX10_ask_16 (c1 _) ?_
      refine g_if_ne (tgt := 25) hX dX10_ask_19 (by decide) (fun _ => ?_) (fun h9 => absurd h9 ((by decide)))
      refine g_aload_n (i := 0) hX dX10_ask_25 rfl rfl ?_
      refine g_iconst hX dX10_ask_26 ic0 ?_
      refine pX10_300 hX dX10_ask_27 ?_
      refine g_iload_n (i := 2) hX dX10_ask_30 rfl rfl ?_
      refine g_if_ne (tgt := 47) hX dX10_ask_31 (by decide) (fun _ => ?_) (fun h9 => absurd h9 ((by decide)))
      refine g_aload_n (i := 0) hX dX10_ask_47 rfl rfl ?_
      refine g_iload_n (i := 1) hX dX10_ask_48 rfl rfl ?_
      refine g_aload_n (i := 0) hX dX10_ask_49 rfl rfl ?_
      refine g_iload_n (i := 1) hX dX10_ask_50 rfl rfl ?_
      refine sX10_293 hX ⟨Nat.le_of_ble_eq_true rfl, Nat.le_of_ble_eq_true rfl⟩ (Nat.le_of_ble_eq_true rfl) dX10_ask_51 (hkr) ?_
      refine sX10_306 hX ⟨Nat.le_of_ble_eq_true rfl, Nat.le_of_ble_eq_true rfl⟩ (Nat.le_of_ble_eq_true rfl) dX10_ask_54 (hsz) ?_
      refine g_iret (st := []) hX hE rfl dX10_ask_57 (⟨_, rfl, rfl, ask_rel hR hlen.1 hF1 hn1 hat⟩)
