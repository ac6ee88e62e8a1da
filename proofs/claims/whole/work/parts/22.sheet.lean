/-! sheets: the class's -/
theorem c_lay {Γ : GG} {S : St} {b : Nat} {l n : Int32} (hb : IsSheet b) : kX7_lay Γ [.ref (Γ.1 b), .int l, .int n] S (rV (pR (pI (pI (pI S b 1 0) b 2 l) b 3 n) (b + 1) (fun j => if j < 60 then 0 else (pI (pI (pI S b 1 0) b 2 l) b 3 n).1 (b + 1) j))) := by
  refine oX7_lay (fun X hX hE => ?_)
  refine g_aload_n (i := 0) hX dX7_lay_0 rfl rfl ?_
  refine g_iconst hX dX7_lay_1 ic0 ?_
  refine pX7_15 hX hb (Or.inl rfl) dX7_lay_2 ?_
  refine g_aload_n (i := 0) hX dX7_lay_5 rfl rfl ?_
  refine g_iload_n (i := 1) hX dX7_lay_6 rfl rfl ?_
  refine pX7_19 hX hb dX7_lay_7 ?_
  refine g_aload_n (i := 0) hX dX7_lay_10 rfl rfl ?_
  refine g_iload_n (i := 2) hX dX7_lay_11 rfl rfl ?_
  refine pX7_23 hX hb dX7_lay_12 ?_
  refine g_aload_n (i := 0) hX dX7_lay_15 rfl rfl ?_
  refine fX7_9 hX hb dX7_lay_16 ?_
  refine g_iconst hX dX7_lay_19 ic0 ?_
  refine sX7_26 hX ⟨Nat.le_of_ble_eq_true rfl, Nat.le_of_ble_eq_true rfl⟩ (Nat.le_of_ble_eq_true rfl) dX7_lay_20 (c_fill hb.a1 (by decide)) ?_
  refine g_vret (st := []) hX hE rfl dX7_lay_23 (⟨rfl, rfl⟩)
theorem c_hasPlaces_t {Γ : GG} {S : St} {b i n z : Nat} (hb : IsSheet b) (hz : S.1 b 3 = nI z) (hz6 : z ≤ 60) (h : i + n ≤ z) : kX7_hasPlaces Γ [.ref (Γ.1 b), .int (nI i), .int (nI n)] S (rI 1 S) := by
  refine oX7_hasPlaces (fun X hX hE => ?_)
  refine g_iload_n (i := 1) hX dX7_hasPlaces_0 rfl rfl ?_
  refine g_if_lt (tgt := 30) hX dX7_hasPlaces_1 (by decide) (fun h9 => absurd h9 (nI_pos (by omega))) (fun _ => ?_)
  refine g_iload_n (i := 2) hX dX7_hasPlaces_4 rfl rfl ?_
  refine g_if_lt (tgt := 30) hX dX7_hasPlaces_5 (by decide) (fun h9 => absurd h9 (nI_pos (by omega))) (fun _ => ?_)
  refine g_iload_n (i := 2) hX dX7_hasPlaces_8 rfl rfl ?_
  refine g_aload_n (i := 0) hX dX7_hasPlaces_9 rfl rfl ?_
  refine fX7_23 hX hb dX7_hasPlaces_10 ?_
  refine g_icmp_gt (tgt := 30) hX dX7_hasPlaces_13 (by decide) (fun h9 => absurd h9 ((by rw [hz]; exact nI_nlt (by omega) (by omega)))) (fun _ => ?_)
  refine g_iload_n (i := 1) hX dX7_hasPlaces_16 rfl rfl ?_
  refine g_aload_n (i := 0) hX dX7_hasPlaces_17 rfl rfl ?_
  refine fX7_23 hX hb dX7_hasPlaces_18 ?_
  refine g_iload_n (i := 2) hX dX7_hasPlaces_21 rfl rfl ?_
  refine g_isub hX dX7_hasPlaces_22 ?_
  refine g_icmp_gt (tgt := 30) hX dX7_hasPlaces_23 (by decide) (fun h9 => absurd h9 ((by rw [hz, nI_sub (by omega)]; exact nI_nlt (by omega) (by omega)))) (fun _ => ?_)
  refine g_iconst hX dX7_hasPlaces_26 ic1 ?_
  refine g_goto (tgt := 31) hX dX7_hasPlaces_27 (by decide) ?_
  refine g_zret (st := []) hX hE rfl (nz_narrow (Or.inr rfl)).1 dX7_hasPlaces_31 (⟨rfl, rfl⟩)
/-- i places on, n places: they lie within z -/
def places (i n : Int32) (z : Nat) : Prop := ∃ i' n' : Nat, i = nI i' ∧ n = nI n' ∧ i' + n' ≤ z
theorem c_hasPlaces_f {Γ : GG} {S : St} {b z : Nat} {i n : Int32} (hb : IsSheet b) (hz : S.1 b 3 = nI z) (hz6 : z ≤ 60) (h : ¬ places i n z) : kX7_hasPlaces Γ [.ref (Γ.1 b), .int i, .int n] S (rI 0 S) := by
  refine oX7_hasPlaces (fun X hX hE => ?_)
  refine g_iload_n (i := 1) hX dX7_hasPlaces_0 rfl rfl ?_
  refine g_if_lt (tgt := 30) hX dX7_hasPlaces_1 (by decide) (fun h1 => ?_) (fun h1 => ?_)
  · refine g_iconst hX dX7_hasPlaces_30 ic0 ?_
    refine g_zret (st := []) hX hE rfl (nz_narrow (Or.inl rfl)).1 dX7_hasPlaces_31 (⟨rfl, rfl⟩)
  refine g_iload_n (i := 2) hX dX7_hasPlaces_4 rfl rfl ?_
  refine g_if_lt (tgt := 30) hX dX7_hasPlaces_5 (by decide) (fun h2 => ?_) (fun h2 => ?_)
  · refine g_iconst hX dX7_hasPlaces_30 ic0 ?_
    refine g_zret (st := []) hX hE rfl (nz_narrow (Or.inl rfl)).1 dX7_hasPlaces_31 (⟨rfl, rfl⟩)
  refine g_iload_n (i := 2) hX dX7_hasPlaces_8 rfl rfl ?_
  refine g_aload_n (i := 0) hX dX7_hasPlaces_9 rfl rfl ?_
  refine fX7_23 hX hb dX7_hasPlaces_10 ?_
  refine g_icmp_gt (tgt := 30) hX dX7_hasPlaces_13 (by decide) (fun h3 => ?_) (fun h3 => ?_)
  · refine g_iconst hX dX7_hasPlaces_30 ic0 ?_
    refine g_zret (st := []) hX hE rfl (nz_narrow (Or.inl rfl)).1 dX7_hasPlaces_31 (⟨rfl, rfl⟩)
  refine g_iload_n (i := 1) hX dX7_hasPlaces_16 rfl rfl ?_
  refine g_aload_n (i := 0) hX dX7_hasPlaces_17 rfl rfl ?_
  refine fX7_23 hX hb dX7_hasPlaces_18 ?_
  refine g_iload_n (i := 2) hX dX7_hasPlaces_21 rfl rfl ?_
  refine g_isub hX dX7_hasPlaces_22 ?_
  refine g_icmp_gt (tgt := 30) hX dX7_hasPlaces_23 (by decide) (fun h4 => ?_) (fun h4 => ?_)
  · refine g_iconst hX dX7_hasPlaces_30 ic0 ?_
    refine g_zret (st := []) hX hE rfl (nz_narrow (Or.inl rfl)).1 dX7_hasPlaces_31 (⟨rfl, rfl⟩)
  refine absurd ?_ h
  rw [hz] at h3 h4
  rw [i_lt, t0] at h1 h2
  rw [i_lt, nI_toInt (by omega)] at h3
  rw [i_lt, i_sub (by rw [nI_toInt (by omega)]; omega) (by rw [nI_toInt (by omega)]; omega), nI_toInt (by omega)] at h4
  exact ⟨i.toInt.toNat, n.toInt.toNat, nI_nat (by omega), nI_nat (by omega), by omega⟩
/-- what a lane makes of a number -/
def cutv (l : Nat) (v : Int32) : Int32 := if l = 0 then v.toInt8.toInt32 else if l = 1 then v.toInt16.toInt32 else v
theorem c_put {Γ : GG} {S : St} {b i z l : Nat} {v : Int32} (hb : IsSheet b) (hz : S.1 b 3 = nI z) (hz6 : z ≤ 60) (hl : S.1 b 2 = nI l) (hl3 : l < 3) (h : i < z) : kX7_put Γ [.ref (Γ.1 b), .int (nI i), .int v] S (rI (cutv l v) (pI S (b + 1) i (cutv l v))) := by
  refine oX7_put (fun X hX hE => ?_)
  have fin : ∀ x, x = cutv l v → G Γ X S 26 [(0, .ref (Γ.1 b)), (1, .int (nI i)), (2, .int v)] [.int x] := by
    intro x hx
    subst hx
    refine g_istore_n (i := 3) hX dX7_put_26 rfl (by decide) rfl ?_
    refine g_iload_n (i := 1) hX dX7_put_27 rfl rfl ?_
    refine g_aload_n (i := 0) hX dX7_put_28 rfl rfl ?_
    refine fX7_23 hX hb dX7_put_29 ?_
    refine sX7_32 hX ⟨Nat.le_of_ble_eq_true rfl, Nat.le_of_ble_eq_true rfl⟩ (Nat.le_of_ble_eq_true rfl) dX7_put_32 ((by rw [hz]; exact isB_t h (by omega))) ?_
    refine g_if_eq (tgt := 45) hX dX7_put_35 (by decide) (fun h9 => absurd h9 ((by decide))) (fun _ => ?_)
    refine g_aload_n (i := 0) hX dX7_put_38 rfl rfl ?_
    refine fX7_9 hX hb dX7_put_39 ?_
    refine g_iload_n (i := 1) hX dX7_put_42 rfl rfl ?_
    refine g_iload_n (i := 3) hX dX7_put_43 rfl rfl ?_
    refine g_iastoreN hX ((hb).a1) rfl ((show i < 60 by omega)) (by first | decide | assumption | omega) dX7_put_44 ?_
    refine g_iload_n (i := 3) hX dX7_put_45 rfl rfl ?_
    refine g_iret (st := []) hX hE rfl dX7_put_46 (⟨rfl, rfl⟩)
  rcases (by omega : l = 0 ∨ l = 1 ∨ l = 2) with rfl | rfl | rfl
  · refine g_aload_n (i := 0) hX dX7_put_0 rfl rfl ?_
    refine fX7_19 hX hb dX7_put_1 ?_
    refine g_if_ne (tgt := 12) hX dX7_put_4 (by decide) (fun h9 => absurd ((by rw [hl]; decide)) h9) (fun _ => ?_)
    refine g_iload_n (i := 2) hX dX7_put_7 rfl rfl ?_
    refine g_i2b hX dX7_put_8 ?_
    refine g_goto (tgt := 26) hX dX7_put_9 (by decide) ?_
    exact fin _ rfl
  · refine g_aload_n (i := 0) hX dX7_put_0 rfl rfl ?_
    refine fX7_19 hX hb dX7_put_1 ?_
    refine g_if_ne (tgt := 12) hX dX7_put_4 (by decide) (fun _ => ?_) (fun h9 => absurd h9 ((by rw [hl]; decide)))
    refine g_aload_n (i := 0) hX dX7_put_12 rfl rfl ?_
    refine fX7_19 hX hb dX7_put_13 ?_
    refine g_iconst hX dX7_put_16 ic1 ?_
    refine g_icmp_ne (tgt := 25) hX dX7_put_17 (by decide) (fun h9 => absurd ((by rw [hl]; decide)) h9) (fun _ => ?_)
    refine g_iload_n (i := 2) hX dX7_put_20 rfl rfl ?_
    refine g_i2s hX dX7_put_21 ?_
    refine g_goto (tgt := 26) hX dX7_put_22 (by decide) ?_
    exact fin _ rfl
  · refine g_aload_n (i := 0) hX dX7_put_0 rfl rfl ?_
    refine fX7_19 hX hb dX7_put_1 ?_
    refine g_if_ne (tgt := 12) hX dX7_put_4 (by decide) (fun _ => ?_) (fun h9 => absurd h9 ((by rw [hl]; decide)))
    refine g_aload_n (i := 0) hX dX7_put_12 rfl rfl ?_
    refine fX7_19 hX hb dX7_put_13 ?_
    refine g_iconst hX dX7_put_16 ic1 ?_
    refine g_icmp_ne (tgt := 25) hX dX7_put_17 (by decide) (fun _ => ?_) (fun h9 => absurd h9 ((by rw [hl]; decide)))
    refine g_iload_n (i := 2) hX dX7_put_25 rfl rfl ?_
    exact fin _ rfl
