/-! promises 20, 21: cost, best -/
def bitF : Nat → Nat → Nat → Nat
  | 0, _, _ => 0
  | f + 1, w, all => if all ≤ w then 0 else bitF f (2 * w) all + 1
theorem bitF_le : ∀ f w all, bitF f w all ≤ f := by
  intro f
  induction f with
  | zero => intro w all; exact Nat.le_refl 0
  | succ f ih => intro w all; rw [bitF]; split; omega; have := ih (2 * w) all; omega
theorem lshl_ok : ∀ b, b < 31 → ((nI b).toInt64 &&& 63).toBitVec.smod 64#64 = BitVec.ofNat 64 b := by decide +kernel
theorem lshl_nat {w b : Nat} (hb : b < 31) (hw : w < 2 ^ 31) : (nI w).toInt64 <<< ((nI b).toInt64 &&& 63) = lN (w * 2 ^ b) := by
  rw [nI_l hw]
  apply Int64.toBitVec_inj.mp
  show (lN w).toBitVec <<< (((nI b).toInt64 &&& 63).toBitVec.smod 64#64) = _
  rw [lshl_ok b hb]
  apply BitVec.eq_of_toNat_eq
  have hp : 2 ^ b ≤ 2 ^ 30 := Nat.pow_le_pow_right (by decide) (by omega)
  have hm : w * 2 ^ b < 2 ^ 61 := by
    calc w * 2 ^ b ≤ w * 2 ^ 30 := Nat.mul_le_mul_left _ hp
      _ < 2 ^ 61 := by omega
  rw [BitVec.shiftLeft_eq', BitVec.toNat_shiftLeft, BitVec.toNat_ofNat, Nat.mod_eq_of_lt (show b < 2 ^ 64 by omega)]
  show (BitVec.ofNat 64 w).toNat <<< b % 2 ^ 64 = (BitVec.ofNat 64 (w * 2 ^ b)).toNat
  rw [BitVec.toNat_ofNat, BitVec.toNat_ofNat, Nat.shiftLeft_eq, Nat.mod_eq_of_lt (show w < 2 ^ 64 by omega)]
theorem c_bitsOf {Γ : GG} {S : St} {w all : Nat} (hw : w ≤ 99) (ha : all ≤ 2000) : kX9_bitsOf Γ [.int (nI w), .int (nI all)] S (rI (nI (bitF 30 w all)) S) := by
  refine oX9_bitsOf (fun X hX hE => ?_)
  have loop : ∀ f b, b + f = 30 → b + bitF f (w * 2 ^ b) all = bitF 30 w all → G Γ X S 2 [(0, .int (nI w)), (1, .int (nI all)), (2, .int (nI b))] [] := by
    intro f
    induction f with
    | zero =>
      intro b hb e
      obtain rfl : b = 30 := by omega
      refine g_iload_n (i := 2) hX dX9_bitsOf_2 rfl rfl ?_
      refine g_bipush hX dX9_bitsOf_3 bp30 ?_
      refine g_icmp_ge (tgt := 24) hX dX9_bitsOf_5 (by decide) (fun _ => ?_) (fun h9 => absurd (Int32.le_refl _) h9)
      refine g_iload_n (i := 2) hX dX9_bitsOf_24 rfl rfl ?_
      refine g_iret (st := []) hX hE rfl dX9_bitsOf_25 (⟨by rw [← e]; rfl, rfl⟩)
    | succ f ih =>
      intro b hb e
      have hp : 2 ^ b ≤ 2 ^ 30 := Nat.pow_le_pow_right (by decide) (by omega)
      have hm : w * 2 ^ b ≤ 99 * 2 ^ 30 := Nat.mul_le_mul hw hp
      rw [bitF] at e
      have hl : (nI w).toInt64 <<< ((nI b).toInt64 &&& 63) = lN (w * 2 ^ b) := lshl_nat (by omega) (by omega)
      by_cases h : all ≤ w * 2 ^ b
      · rw [if_pos h, Nat.add_zero] at e
        refine g_iload_n (i := 2) hX dX9_bitsOf_2 rfl rfl ?_
        refine g_bipush hX dX9_bitsOf_3 bp30 ?_
        refine g_icmp_ge (tgt := 24) hX dX9_bitsOf_5 (by decide) (fun h9 => absurd h9 (nI_ge (show b < 30 by omega) (by decide))) (fun _ => ?_)
        refine g_iload_n (i := 0) hX dX9_bitsOf_8 rfl rfl ?_
        refine g_i2l hX dX9_bitsOf_9 ?_
        refine g_iload_n (i := 2) hX dX9_bitsOf_10 rfl rfl ?_
        refine g_lshl hX dX9_bitsOf_11 ?_
        refine g_iload_n (i := 1) hX dX9_bitsOf_12 rfl rfl ?_
        refine g_i2l hX dX9_bitsOf_13 ?_
        refine g_lcmp hX dX9_bitsOf_14 ?_
        refine g_if_ge (tgt := 24) hX dX9_bitsOf_15 (by decide) (fun _ => ?_) (fun h9 => absurd ((by rw [lg_cmp_ge, hl, nI_l (by omega), pk_lLE (by omega) (by omega)]; exact h)) h9)
        refine g_iload_n (i := 2) hX dX9_bitsOf_24 rfl rfl ?_
        refine g_iret (st := []) hX hE rfl dX9_bitsOf_25 (⟨by rw [e], rfl⟩)
      · rw [if_neg h] at e
        refine g_iload_n (i := 2) hX dX9_bitsOf_2 rfl rfl ?_
        refine g_bipush hX dX9_bitsOf_3 bp30 ?_
        refine g_icmp_ge (tgt := 24) hX dX9_bitsOf_5 (by decide) (fun h9 => absurd h9 (nI_ge (show b < 30 by omega) (by decide))) (fun _ => ?_)
        refine g_iload_n (i := 0) hX dX9_bitsOf_8 rfl rfl ?_
        refine g_i2l hX dX9_bitsOf_9 ?_
        refine g_iload_n (i := 2) hX dX9_bitsOf_10 rfl rfl ?_
        refine g_lshl hX dX9_bitsOf_11 ?_
        refine g_iload_n (i := 1) hX dX9_bitsOf_12 rfl rfl ?_
        refine g_i2l hX dX9_bitsOf_13 ?_
        refine g_lcmp hX dX9_bitsOf_14 ?_
        refine g_if_ge (tgt := 24) hX dX9_bitsOf_15 (by decide) (fun h9 => absurd h9 ((by rw [lg_cmp_ge, hl, nI_l (by omega), pk_lLE (by omega) (by omega)]; exact h))) (fun _ => ?_)
        refine g_iinc hX dX9_bitsOf_18 rfl ic1 (by decide) rfl ?_
        refine g_goto (tgt := 2) hX dX9_bitsOf_21 (by decide) ?_
        rw [nI_1]
        refine ih (b + 1) (by omega) ?_
        rw [← e, Nat.pow_succ, ← Nat.mul_assoc, Nat.mul_comm (w * 2 ^ b) 2]; omega
  refine g_iconst hX dX9_bitsOf_0 ic0 ?_
  refine g_istore_n (i := 2) hX dX9_bitsOf_1 rfl (by decide) rfl ?_
  exact loop 30 0 (by omega) (by rw [Nat.pow_zero, Nat.mul_one, Nat.zero_add])
theorem c_bitsOfR {Γ : GG} {S : St} {w all : Nat} (hw1 : 1 ≤ w) (hw : w ≤ 99) (ha : all ≤ 2000) : kX10_bitsOf Γ [.int (nI w), .int (nI all)] S (rI (nI (bitF 30 w all)) S) := by
  refine oX10_bitsOf (fun X hX hE => ?_)
  have loop : ∀ f b v, b + f = 30 → 2 ^ b ≤ v → b + bitF f v all = bitF 30 w all → v < 2 ^ 31 → G Γ X S 4 [(0, .int (nI w)), (1, .int (nI all)), (2, .int (nI b)), (3, .int (nI v))] [] := by
    intro f
    induction f with
    | zero =>
      intro b v hb hv e hlt
      obtain rfl : b = 30 := by omega
      refine g_iload_n (i := 3) hX dX10_bitsOf_4 rfl rfl ?_
      refine g_iload_n (i := 1) hX dX10_bitsOf_5 rfl rfl ?_
      refine g_icmp_ge (tgt := 19) hX dX10_bitsOf_6 (by decide) (fun _ => ?_) (fun h9 => absurd (nI_le (by omega) hlt) h9)
      refine g_iload_n (i := 2) hX dX10_bitsOf_19 rfl rfl ?_
      refine g_iret (st := []) hX hE rfl dX10_bitsOf_20 (⟨by rw [← e]; rfl, rfl⟩)
    | succ f ih =>
      intro b v hb hv e hlt
      rw [bitF] at e
      by_cases h : all ≤ v
      · rw [if_pos h, Nat.add_zero] at e
        refine g_iload_n (i := 3) hX dX10_bitsOf_4 rfl rfl ?_
        refine g_iload_n (i := 1) hX dX10_bitsOf_5 rfl rfl ?_
        refine g_icmp_ge (tgt := 19) hX dX10_bitsOf_6 (by decide) (fun _ => ?_) (fun h9 => absurd (nI_le h hlt) h9)
        refine g_iload_n (i := 2) hX dX10_bitsOf_19 rfl rfl ?_
        refine g_iret (st := []) hX hE rfl dX10_bitsOf_20 (⟨by rw [e], rfl⟩)
      · rw [if_neg h] at e
        refine g_iload_n (i := 3) hX dX10_bitsOf_4 rfl rfl ?_
        refine g_iload_n (i := 1) hX dX10_bitsOf_5 rfl rfl ?_
        refine g_icmp_ge (tgt := 19) hX dX10_bitsOf_6 (by decide) (fun h9 => absurd h9 (nI_ge (by omega) (by omega))) (fun _ => ?_)
        refine g_iload_n (i := 3) hX dX10_bitsOf_9 rfl rfl ?_
        refine g_iconst hX dX10_bitsOf_10 ic2 ?_
        refine g_imul hX dX10_bitsOf_11 ?_
        refine g_istore_n (i := 3) hX dX10_bitsOf_12 rfl (by decide) rfl ?_
        refine g_iinc hX dX10_bitsOf_13 rfl ic1 (by decide) rfl ?_
        refine g_goto (tgt := 4) hX dX10_bitsOf_16 (by decide) ?_
        rw [nI_1, show nI v * 2 = nI (2 * v) from by rw [show (2 : Int32) = nI 2 from rfl, nI_mul, Nat.mul_comm]]
        exact ih (b + 1) (2 * v) (by omega) (by rw [Nat.pow_succ]; omega) (by rw [← e]; omega) (by omega)
  refine g_iconst hX dX10_bitsOf_0 ic0 ?_
  refine g_istore_n (i := 2) hX dX10_bitsOf_1 rfl (by decide) rfl ?_
  refine g_iload_n (i := 0) hX dX10_bitsOf_2 rfl rfl ?_
  refine g_istore_n (i := 3) hX dX10_bitsOf_3 rfl (by decide) rfl ?_
  exact loop 30 0 w (by omega) hw1 (by rw [Nat.zero_add]) (by omega)
def nzW (g : Nat → Nat) : Nat → Nat
  | 0 => 0
  | n + 1 => nzW g n + (if g n = 0 then 0 else 1)
theorem nzN_nzW {f : Nat → Int32} {g : Nat → Nat} : ∀ n, (∀ j, j < n → f j = nI (g j) ∧ g j ≤ 99) → nzN f n = nzW g n := by
  intro n
  induction n with
  | zero => intro _; rfl
  | succ n ih =>
    intro q
    obtain ⟨h2, h3⟩ := q n (by omega)
    simp only [nzN, nzW]
    rw [ih (fun j hj => q j (by omega)), h2]
    by_cases e : g n = 0
    · rw [e, if_pos nI_0, if_pos rfl]
    · rw [if_neg (nI_ne0 (by omega) (by omega)), if_neg e]
theorem nzW_le (g : Nat → Nat) : ∀ n, nzW g n ≤ n := by
  intro n
  induction n with
  | zero => exact Nat.le_refl 0
  | succ n ih => simp only [nzW]; split <;> omega
/-- what a part costs: counts c by slots, weights g; its value on the machine -/
def cbBad (c g : Nat → Nat) : Prop := ∃ i, i < 11 ∧ ¬ c i = 0 ∧ g i = 0
def costN (c g : Nat → Nat) (m : Nat) : Nat := 8 * nzW g 11 + sumW (fun d => c d * bitF 30 (g d) (sumW g 11)) m
theorem costN_le {c g : Nat → Nat} (hc : ∀ i, c i ≤ 40) : ∀ m, m ≤ 11 → costN c g m ≤ 88 + 1200 * m := by
  intro m hm
  have h1 := nzW_le g 11
  have h2 := sumW_le (g := fun d => c d * bitF 30 (g d) (sumW g 11)) (m := 1200) m (fun j _ => by
    have := Nat.mul_le_mul (hc j) (bitF_le 30 (g j) (sumW g 11)); exact this)
  unfold costN
  omega
theorem c_costBy {Γ : GG} {S : St} {k1 k2 : Nat} {c g : Nat → Nat} {r : Int32} (ha1 : IsArr k1 11) (ha2 : IsArr k2 11) (hg : ∀ i, i < 11 → S.1 k1 i = nI (g i) ∧ g i ≤ 99) (hc : ∀ i, i < 11 → S.1 k2 i = nI (c i)) (hc4 : ∀ i, c i ≤ 40) (hr : (cbBad c g ∧ r = -1000000) ∨ (¬ cbBad c g ∧ r = nI (costN c g 11))) : kX9_costBy Γ [.ref (Γ.1 k1), .ref (Γ.1 k2)] S (rI r S) := by
  refine oX9_costBy (fun X hX hE => ?_)
  have hall : sumN (S.1 k1) 11 = nI (sumW g 11) := sumN_nI 11 (fun i hi => (hg i hi).1)
  have hallb := sumW_le 11 (fun i hi => (hg i hi).2)
  have hnz : nzN (S.1 k1) 11 = nzW g 11 := nzN_nzW 11 hg
  have loop : ∀ d i, i + d = 11 → (∀ j, j < i → ¬ (¬ c j = 0 ∧ g j = 0)) → G Γ X S 16 [(0, .ref (Γ.1 k1)), (1, .ref (Γ.1 k2)), (2, .int (nI (sumW g 11))), (3, .int (nI (costN c g i))), (4, .int (nI i))] [] := by
    intro d
    induction d with
    | zero =>
      intro i hi hno
      obtain rfl : i = 11 := by omega
      rcases hr with ⟨⟨j, j1, j2⟩, -⟩ | ⟨-, rfl⟩
      · exact absurd j2 (hno j j1)
      · refine g_iload hX dX9_costBy_16 rfl ?_
        refine g_aload_n (i := 0) hX dX9_costBy_18 rfl rfl ?_
        refine g_alen hX (ha1).1 (ha1).2 dX9_costBy_19 ?_
        refine g_icmp_ge (tgt := 72) hX dX9_costBy_20 (by decide) (fun _ => ?_) (fun h9 => absurd (Int32.le_refl _) h9)
        refine g_iload_n (i := 3) hX dX9_costBy_72 rfl rfl ?_
        refine g_iret (st := []) hX hE rfl dX9_costBy_73 (⟨rfl, rfl⟩)
    | succ d ih =>
      intro i hi hno
      obtain ⟨g1, g2⟩ := hg i (by omega)
      have c1 := hc i (by omega)
      have c2 := hc4 i
      have next := fun (h : ¬ (¬ c i = 0 ∧ g i = 0)) => ih (i + 1) (by omega) (fun j hj => by
        by_cases e : j = i
        · subst e; exact h
        · exact hno j (by omega))
      by_cases h0 : c i = 0
      · refine g_iload hX dX9_costBy_16 rfl ?_
        refine g_aload_n (i := 0) hX dX9_costBy_18 rfl rfl ?_
        refine g_alen hX (ha1).1 (ha1).2 dX9_costBy_19 ?_
        refine g_icmp_ge (tgt := 72) hX dX9_costBy_20 (by decide) (fun h9 => absurd h9 (nI_ge (show i < 11 by omega) (by decide))) (fun _ => ?_)
        refine g_iload hX dX9_costBy_23 rfl ?_
        refine g_aload_n (i := 1) hX dX9_costBy_25 rfl rfl ?_
        refine g_alen hX (ha2).1 (ha2).2 dX9_costBy_26 ?_
        refine g_icmp_ge (tgt := 72) hX dX9_costBy_27 (by decide) (fun h9 => absurd h9 (nI_ge (show i < 11 by omega) (by decide))) (fun _ => ?_)
        refine g_aload_n (i := 1) hX dX9_costBy_30 rfl rfl ?_
        refine g_iload hX dX9_costBy_31 rfl ?_
        refine g_ialoadN hX (ha2) rfl ((show i < 11 by omega)) (by first | decide | assumption | omega) dX9_costBy_33 ?_
        refine g_if_ne (tgt := 40) hX dX9_costBy_34 (by decide) (fun h9 => absurd ((by rw [c1, h0]; rfl)) h9) (fun _ => ?_)
        refine g_goto (tgt := 66) hX dX9_costBy_37 (by decide) ?_
        refine g_iinc hX dX9_costBy_66 rfl ic1 (by decide) rfl ?_
        refine g_goto (tgt := 16) hX dX9_costBy_69 (by decide) ?_
        have e : costN c g (i + 1) = costN c g i := by simp only [costN, sumW, h0, Nat.zero_mul, Nat.add_zero]
        rw [nI_1, ← e]
        exact next (fun q => q.1 h0)
      · by_cases g0 : g i = 0
        · rcases hr with ⟨-, rfl⟩ | ⟨q, -⟩
          · refine g_iload hX dX9_costBy_16 rfl ?_
            refine g_aload_n (i := 0) hX dX9_costBy_18 rfl rfl ?_
            refine g_alen hX (ha1).1 (ha1).2 dX9_costBy_19 ?_
            refine g_icmp_ge (tgt := 72) hX dX9_costBy_20 (by decide) (fun h9 => absurd h9 (nI_ge (show i < 11 by omega) (by decide))) (fun _ => ?_)
            refine g_iload hX dX9_costBy_23 rfl ?_
            refine g_aload_n (i := 1) hX dX9_costBy_25 rfl rfl ?_
            refine g_alen hX (ha2).1 (ha2).2 dX9_costBy_26 ?_
            refine g_icmp_ge (tgt := 72) hX dX9_costBy_27 (by decide) (fun h9 => absurd h9 (nI_ge (show i < 11 by omega) (by decide))) (fun _ => ?_)
            refine g_aload_n (i := 1) hX dX9_costBy_30 rfl rfl ?_
            refine g_iload hX dX9_costBy_31 rfl ?_
            refine g_ialoadN hX (ha2) rfl ((show i < 11 by omega)) (by first | decide | assumption | omega) dX9_costBy_33 ?_
            refine g_if_ne (tgt := 40) hX dX9_costBy_34 (by decide) (fun _ => ?_) (fun h9 => absurd h9 ((by rw [c1]; exact nI_ne0 (by omega) (by omega))))
            refine g_aload_n (i := 0) hX dX9_costBy_40 rfl rfl ?_
            refine g_iload hX dX9_costBy_41 rfl ?_
            refine g_ialoadN hX (ha1) rfl ((show i < 11 by omega)) (by first | decide | assumption | omega) dX9_costBy_43 ?_
            refine g_if_ne (tgt := 50) hX dX9_costBy_44 (by decide) (fun h9 => absurd ((by rw [g1, g0]; rfl)) h9) (fun _ => ?_)
            refine g_ldc hX ccX9_153 dX9_costBy_47 ?_
            refine g_iret (st := []) hX hE rfl dX9_costBy_49 (⟨rfl, rfl⟩)
          · exact absurd ⟨i, by omega, h0, g0⟩ q
        · refine g_iload hX dX9_costBy_16 rfl ?_
          refine g_aload_n (i := 0) hX dX9_costBy_18 rfl rfl ?_
          refine g_alen hX (ha1).1 (ha1).2 dX9_costBy_19 ?_
          refine g_icmp_ge (tgt := 72) hX dX9_costBy_20 (by decide) (fun h9 => absurd h9 (nI_ge (show i < 11 by omega) (by decide))) (fun _ => ?_)
          refine g_iload hX dX9_costBy_23 rfl ?_
          refine g_aload_n (i := 1) hX dX9_costBy_25 rfl rfl ?_
          refine g_alen hX (ha2).1 (ha2).2 dX9_costBy_26 ?_
          refine g_icmp_ge (tgt := 72) hX dX9_costBy_27 (by decide) (fun h9 => absurd h9 (nI_ge (show i < 11 by omega) (by decide))) (fun _ => ?_)
          refine g_aload_n (i := 1) hX dX9_costBy_30 rfl rfl ?_
          refine g_iload hX dX9_costBy_31 rfl ?_
          refine g_ialoadN hX (ha2) rfl ((show i < 11 by omega)) (by first | decide | assumption | omega) dX9_costBy_33 ?_
          refine g_if_ne (tgt := 40) hX dX9_costBy_34 (by decide) (fun _ => ?_) (fun h9 => absurd h9 ((by rw [c1]; exact nI_ne0 (by omega) (by omega))))
          refine g_aload_n (i := 0) hX dX9_costBy_40 rfl rfl ?_
          refine g_iload hX dX9_costBy_41 rfl ?_
          refine g_ialoadN hX (ha1) rfl ((show i < 11 by omega)) (by first | decide | assumption | omega) dX9_costBy_43 ?_
          refine g_if_ne (tgt := 50) hX dX9_costBy_44 (by decide) (fun _ => ?_) (fun h9 => absurd h9 ((by rw [g1]; exact nI_ne0 (by omega) (by omega))))
          refine g_iload_n (i := 3) hX dX9_costBy_50 rfl rfl ?_
          refine g_aload_n (i := 1) hX dX9_costBy_51 rfl rfl ?_
          refine g_iload hX dX9_costBy_52 rfl ?_
          refine g_ialoadN hX (ha2) rfl ((show i < 11 by omega)) (by first | decide | assumption | omega) dX9_costBy_54 ?_
          refine g_aload_n (i := 0) hX dX9_costBy_55 rfl rfl ?_
          refine g_iload hX dX9_costBy_56 rfl ?_
          refine g_ialoadN hX (ha1) rfl ((show i < 11 by omega)) (by first | decide | assumption | omega) dX9_costBy_58 ?_
          refine g_iload_n (i := 2) hX dX9_costBy_59 rfl rfl ?_
          refine sX9_303 hX ⟨Nat.le_of_ble_eq_true rfl, Nat.le_of_ble_eq_true rfl⟩ (Nat.le_of_ble_eq_true rfl) dX9_costBy_60 ((by rw [g1]; exact c_bitsOf g2 (by omega))) ?_
          refine g_imul hX dX9_costBy_63 ?_
          refine g_iadd hX dX9_costBy_64 ?_
          refine g_istore_n (i := 3) hX dX9_costBy_65 rfl (by decide) rfl ?_
          refine g_iinc hX dX9_costBy_66 rfl ic1 (by decide) rfl ?_
          refine g_goto (tgt := 16) hX dX9_costBy_69 (by decide) ?_
          have e : costN c g (i + 1) = costN c g i + c i * bitF 30 (g i) (sumW g 11) := by simp only [costN, sumW, Nat.add_assoc]
          rw [nI_1, c1, nI_mul, nI_add2, ← e]
          exact next (fun q => g0 q.2)
  refine g_aload_n (i := 0) hX dX9_costBy_0 rfl rfl ?_
  refine sX9_296 hX ⟨Nat.le_of_ble_eq_true rfl, Nat.le_of_ble_eq_true rfl⟩ (Nat.le_of_ble_eq_true rfl) dX9_costBy_1 (c_sumOf ha1 (by decide)) ?_
  refine g_istore_n (i := 2) hX dX9_costBy_4 rfl (by decide) rfl ?_
  refine g_bipush hX dX9_costBy_5 bp8 ?_
  refine g_aload_n (i := 0) hX dX9_costBy_7 rfl rfl ?_
  refine sX9_300 hX ⟨Nat.le_of_ble_eq_true rfl, Nat.le_of_ble_eq_true rfl⟩ (Nat.le_of_ble_eq_true rfl) dX9_costBy_8 (c_nz ha1 (by decide)) ?_
  refine g_imul hX dX9_costBy_11 ?_
  refine g_istore_n (i := 3) hX dX9_costBy_12 rfl (by decide) rfl ?_
  refine g_iconst hX dX9_costBy_13 ic0 ?_
  refine g_istore hX dX9_costBy_14 (by decide) rfl ?_
  rw [hall, hnz, show (8 : Int32) = nI 8 from rfl, nI_mul]
  exact loop 11 0 (by omega) (fun j hj => absurd hj (by omega))
/-- by asks instead of by slots -/
theorem sum_slots {b : Nat → Nat} {s : Nat → Nat} {sl : Nat → Int32} : ∀ n, (∀ k, k < n → sl k = nI (s k) ∧ s k < 11) → sumW (fun k => b (s k)) n = sumW (fun d => cntE sl n d * b d) 11 := by
  have delta : ∀ (c : Nat → Nat) (x m : Nat), sumW (fun d => (c d + (if x = d then 1 else 0)) * b d) m = sumW (fun d => c d * b d) m + (if x < m then b x else 0) := by
    intro c x m
    induction m with
    | zero => rfl
    | succ m ih =>
      simp only [sumW]
      rw [ih]
      by_cases e : x = m
      · subst e
        rw [if_neg (by omega), if_pos rfl, if_pos (by omega), Nat.add_mul, Nat.one_mul]; omega
      · rw [if_neg e, Nat.add_zero]
        by_cases h : x < m
        · rw [if_pos h, if_pos (by omega)]; omega
        · rw [if_neg h, if_neg (by omega)]; omega
  intro n
  induction n with
  | zero => intro _; simp [sumW, cntE]
  | succ n ih =>
    intro h
    obtain ⟨h1, h2⟩ := h n (by omega)
    have e : sumW (fun d => cntE sl (n + 1) d * b d) 11 = sumW (fun d => (cntE sl n d + (if s n = d then 1 else 0)) * b d) 11 := by
      apply sumW_congr
      intro d hd
      simp only [cntE]
      by_cases q : s n = d
      · rw [if_pos q, if_pos (by rw [h1, q])]
      · rw [if_neg q, if_neg (by rw [h1]; exact nI_ne (by omega) (by omega) q)]
    rw [e, delta, if_pos h2, ← ih (fun k hk => h k (by omega))]
    rfl
theorem cnt_pos {sl : Nat → Int32} {d : Nat} : ∀ n, ¬ cntE sl n d = 0 ↔ ∃ k, k < n ∧ sl k = nI d := by
  intro n
  induction n with
  | zero => exact ⟨fun h => absurd rfl h, fun ⟨k, hk, _⟩ => absurd hk (by omega)⟩
  | succ n ih =>
    simp only [cntE]
    by_cases q : sl n = nI d
    · rw [if_pos q]
      exact ⟨fun _ => ⟨n, by omega, q⟩, fun _ => by omega⟩
    · rw [if_neg q, Nat.add_zero, ih]
      exact ⟨fun ⟨k, h1, h2⟩ => ⟨k, by omega, h2⟩, fun ⟨k, h1, h2⟩ => ⟨k, by
        rcases Nat.lt_or_ge k n with z | z
        · exact z
        · exact absurd (by rw [show n = k by omega]; exact h2) q, h2⟩⟩
theorem bad_slots {g : Nat → Nat} {s : Nat → Nat} {sl : Nat → Int32} {n : Nat} (h : ∀ k, k < n → sl k = nI (s k) ∧ s k < 11) : cbBad (cntE sl n) g ↔ ∃ k, k < n ∧ g (s k) = 0 := by
  constructor
  · rintro ⟨i, h1, h2, h3⟩
    obtain ⟨k, k1, k2⟩ := (cnt_pos n).mp h2
    obtain ⟨q1, q2⟩ := h k k1
    have : s k = i := nI_inj (by omega) (by omega) (q1.symm.trans k2)
    exact ⟨k, k1, by rw [this]; exact h3⟩
  · rintro ⟨k, k1, k2⟩
    obtain ⟨q1, q2⟩ := h k k1
    exact ⟨s k, q2, (cnt_pos n).mpr ⟨k, k1, q1⟩, k2⟩
