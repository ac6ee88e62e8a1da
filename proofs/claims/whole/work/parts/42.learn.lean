/-! lots; promise 23: learn -/
def nxL (x : Int64) : Int64 := x * 6364136223846793005 + 1442695040888963407
def lotV (x : Int64) : Int32 := (ushrL x 33).toInt32
def nextS (S : St) : St := pI (pJ S 58 0 (nxL (S.2 58 0))) 58 1 (S.1 58 1 + 1)
def lotS (S : St) : St := pI (pJ S 67 22 (nxL (S.2 67 22))) 67 23 (S.1 67 23 + 1)
theorem nextS_J (S : St) : (nextS S).2 58 0 = nxL (S.2 58 0) := by
  unfold nextS
  rw [pR_J]
  exact pJ_self S 58 0 (nxL (S.2 58 0))
theorem lotS_J (S : St) : (lotS S).2 67 22 = nxL (S.2 67 22) := by
  unfold lotS
  rw [pR_J]
  exact pJ_self S 67 22 (nxL (S.2 67 22))
theorem lotV_nat (x : Int64) : ∃ n, n < 2 ^ 31 ∧ lotV x = nI n := by
  have h : (ushrL x 33).toBitVec.toNat = x.toBitVec.toNat / 2 ^ 33 := ushrL_nat x 33 33 (by decide +kernel)
  have hlt : x.toBitVec.toNat < 2 ^ 64 := x.toBitVec.isLt
  have h2 : (lotV x).toBitVec.toNat = x.toBitVec.toNat / 2 ^ 33 := by
    unfold lotV
    rw [toI32_nat, h, Nat.mod_eq_of_lt (by omega)]
  refine ⟨x.toBitVec.toNat / 2 ^ 33, by omega, ?_⟩
  apply Int32.toBitVec_inj.mp
  apply BitVec.eq_of_toNat_eq
  rw [h2, pk_tn (by omega)]
theorem c_next {Γ : GG} {S : St} : kX3_next Γ [.ref (Γ.1 58)] S (rI (lotV (nxL (S.2 58 0))) (nextS S)) := by
  refine oX3_next (fun X hX hE => ?_)
  refine g_aload_n (i := 0) hX dX3_next_0 rfl rfl ?_
  refine g_aload_n (i := 0) hX dX3_next_1 rfl rfl ?_
  refine fX3_9 hX dX3_next_2 ?_
  refine g_ldc2_w hX ccX3_19 dX3_next_5 ?_
  refine g_lmul hX dX3_next_8 ?_
  refine g_ldc2_w hX ccX3_21 dX3_next_9 ?_
  refine g_ladd hX dX3_next_12 ?_
  refine pX3_9 hX dX3_next_13 ?_
  refine g_aload_n (i := 0) hX dX3_next_16 rfl rfl ?_
  refine g_dup hX dX3_next_17 rfl ?_
  refine fX3_15 hX dX3_next_18 ?_
  refine g_iconst hX dX3_next_21 ic1 ?_
  refine g_iadd hX dX3_next_22 ?_
  refine pX3_15 hX dX3_next_23 ?_
  refine g_aload_n (i := 0) hX dX3_next_26 rfl rfl ?_
  refine fX3_9 hX dX3_next_27 ?_
  refine g_bipush hX dX3_next_30 bp33 ?_
  refine g_lushr hX dX3_next_32 ?_
  refine g_l2i hX dX3_next_33 ?_
  refine g_iret (st := []) hX hE rfl dX3_next_34 (⟨rfl, rfl⟩)
theorem c_lot {Γ : GG} {S : St} : kX10_lot Γ [.ref (Γ.1 67)] S (rI (lotV (nxL (S.2 67 22))) (lotS S)) := by
  refine oX10_lot (fun X hX hE => ?_)
  refine g_aload_n (i := 0) hX dX10_lot_0 rfl rfl ?_
  refine g_aload_n (i := 0) hX dX10_lot_1 rfl rfl ?_
  refine fX10_211 hX dX10_lot_2 ?_
  refine g_ldc2_w hX ccX10_215 dX10_lot_5 ?_
  refine g_lmul hX dX10_lot_8 ?_
  refine g_ldc2_w hX ccX10_217 dX10_lot_9 ?_
  refine g_ladd hX dX10_lot_12 ?_
  refine pX10_211 hX dX10_lot_13 ?_
  refine g_aload_n (i := 0) hX dX10_lot_16 rfl rfl ?_
  refine g_dup hX dX10_lot_17 rfl ?_
  refine fX10_219 hX dX10_lot_18 ?_
  refine g_iconst hX dX10_lot_21 ic1 ?_
  refine g_iadd hX dX10_lot_22 ?_
  refine pX10_219 hX dX10_lot_23 ?_
  refine g_aload_n (i := 0) hX dX10_lot_26 rfl rfl ?_
  refine fX10_211 hX dX10_lot_27 ?_
  refine g_bipush hX dX10_lot_30 bp33 ?_
  refine g_lushr hX dX10_lot_32 ?_
  refine g_l2i hX dX10_lot_33 ?_
  refine g_iret (st := []) hX hE rfl dX10_lot_34 (⟨rfl, rfl⟩)
theorem c_begin {Γ : GG} {S : St} {x : Int64} : kX3_begin Γ [.ref (Γ.1 58), .long x] S (rV (pI (pJ S 58 0 x) 58 1 0)) := by
  refine oX3_begin (fun X hX hE => ?_)
  refine g_aload_n (i := 0) hX dX3_begin_0 rfl rfl ?_
  refine g_lload_n (i := 1) hX dX3_begin_1 rfl rfl ?_
  refine pX3_9 hX dX3_begin_2 ?_
  refine g_aload_n (i := 0) hX dX3_begin_5 rfl rfl ?_
  refine g_iconst hX dX3_begin_6 ic0 ?_
  refine pX3_15 hX dX3_begin_7 ?_
  refine g_vret (st := []) hX hE rfl dX3_begin_10 (⟨rfl, rfl⟩)
/-- learned names: the lots' state before slot i, and what slot i becomes -/
def lrX (c : Nat → Nat) (k : Nat) (x0 : Int64) : Nat → Int64
  | 0 => x0
  | i + 1 => if k ≤ c i then nxL (lrX c k x0 i) else lrX c k x0 i
def lrV (c : Nat → Nat) (r k : Nat) (x0 : Int64) (i : Nat) : Int32 := if k ≤ c i then (if nI (c i) + jrem (lotV (nxL (lrX c k x0 i))) (nI (2 * r + 1)) - nI r < 0 then 0 else nI (c i) + jrem (lotV (nxL (lrX c k x0 i))) (nI (2 * r + 1)) - nI r) else 0
theorem lrV_nat (c : Nat → Nat) {r k : Nat} (x0 : Int64) {i : Nat} (hc : c i ≤ 40) (hr : r < 10) : ∃ v, v ≤ 99 ∧ lrV c r k x0 i = nI v := by
  unfold lrV
  by_cases hk : k ≤ c i
  · rw [if_pos hk]
    obtain ⟨n, hn, e⟩ := lotV_nat (nxL (lrX c k x0 i))
    rw [e, jrem_nI hn (by omega) (by omega), nI_add2]
    have hm : n % (2 * r + 1) < 2 * r + 1 := Nat.mod_lt _ (by omega)
    split
    · exact ⟨0, by omega, rfl⟩
    · rename_i h
      have h2 : (nI (c i + n % (2 * r + 1)) - nI r).toInt = (c i + n % (2 * r + 1) : Nat) - (r : Int) := pk_sub_toInt (by omega) (by omega)
      rw [i_lt, t0, h2] at h
      refine ⟨c i + n % (2 * r + 1) - r, by omega, ?_⟩
      rw [nI_sub (by omega)]
  · rw [if_neg hk]; exact ⟨0, by omega, rfl⟩
def fillTo (g f : Nat → Int32) (n : Nat) : Nat → Int32 := fun i => if i < n then g i else f i
theorem fillTo_step (S : St) (k n : Nat) (g f : Nat → Int32) : pI (pR S k (fillTo g f n)) k n (g n) = pR S k (fillTo g f (n + 1)) := by
  show pR (pR S k _) k (upd ((pR S k _).1 k) n _) = _
  rw [pR_self, pR_pR]
  congr 1
  funext q
  unfold fillTo
  by_cases h : q = n
  · subst h; rw [upd_self, if_pos (by omega)]
  · rw [upd_ne _ _ h]
    by_cases h1 : q < n
    · rw [if_pos h1, if_pos (by omega)]
    · rw [if_neg h1, if_neg (by omega)]
theorem c_learnNames {Γ : GG} {S : St} {r k : Nat} {x0 : Int64} {c : Nat → Nat} (hr : r < 10) (hk : k < 10) (hc : ∀ i, i < 11 → S.1 65 i = nI (c i) ∧ c i ≤ 40) : kX4_learnNames Γ [.ref (Γ.1 57), .ref (Γ.1 37), .ref (Γ.1 65), .int (nI r), .int (nI k), .long x0] S (eV (fun S1 => (∀ i, i < 11 → S1.1 37 i = lrV c r k x0 i) ∧ Fq [37] [(58, 0), (58, 1)] S S1)) := by
  refine oX4_learnNames (fun X hX hE => ?_)
  have e2 : (2 : Int32) * nI r + 1 = nI (2 * r + 1) := by rw [show (2 : Int32) = nI 2 from rfl, nI_mul, nI_1]
  have loop : ∀ d i T, i + d = 11 → T.2 58 0 = lrX c k x0 i → (∀ j, j < i → T.1 37 j = lrV c r k x0 j) → Fq [37] [(58, 0), (58, 1)] S T → G Γ X T 23 [(0, .ref (Γ.1 57)), (1, .ref (Γ.1 37)), (2, .ref (Γ.1 65)), (3, .int (nI r)), (4, .int (nI k)), (5, .long x0), (7, .int (nI (2 * r + 1))), (8, .int (nI i))] [] := by
    intro d
    induction d with
    | zero =>
      intro i T hi hx hv hF
      obtain rfl : i = 11 := by omega
      refine g_iload hX dX4_learnNames_23 rfl ?_
      refine g_aload_n (i := 1) hX dX4_learnNames_25 rfl rfl ?_
      refine g_alen hX (ia37).1 (ia37).2 dX4_learnNames_26 ?_
      refine g_icmp_ge (tgt := 81) hX dX4_learnNames_27 (by decide) (fun _ => ?_) (fun h9 => absurd (Int32.le_refl _) h9)
      refine g_vret (st := []) hX hE rfl dX4_learnNames_81 (⟨rfl, hv, hF⟩)
    | succ d ih =>
      intro i T hi hx hv hF
      have e65 : T.1 65 = S.1 65 := hF.r (by decide)
      obtain ⟨c1, c2⟩ := hc i (by omega)
      have ec : T.1 65 i = nI (c i) := by rw [e65, c1]
      by_cases hq : k ≤ c i
      · refine g_iload hX dX4_learnNames_23 rfl ?_
        refine g_aload_n (i := 1) hX dX4_learnNames_25 rfl rfl ?_
        refine g_alen hX (ia37).1 (ia37).2 dX4_learnNames_26 ?_
        refine g_icmp_ge (tgt := 81) hX dX4_learnNames_27 (by decide) (fun h9 => absurd h9 (nI_ge (show i < 11 by omega) (by decide))) (fun _ => ?_)
        refine g_iload hX dX4_learnNames_30 rfl ?_
        refine g_aload_n (i := 2) hX dX4_learnNames_32 rfl rfl ?_
        refine g_alen hX (ia65).1 (ia65).2 dX4_learnNames_33 ?_
        refine g_icmp_ge (tgt := 81) hX dX4_learnNames_34 (by decide) (fun h9 => absurd h9 (nI_ge (show i < 11 by omega) (by decide))) (fun _ => ?_)
        refine g_aload_n (i := 1) hX dX4_learnNames_37 rfl rfl ?_
        refine g_iload hX dX4_learnNames_38 rfl ?_
        refine g_aload_n (i := 2) hX dX4_learnNames_40 rfl rfl ?_
        refine g_iload hX dX4_learnNames_41 rfl ?_
        refine g_ialoadN hX (ia65) rfl ((show i < 11 by omega)) (by first | decide | assumption | omega) dX4_learnNames_43 ?_
        refine g_iload hX dX4_learnNames_44 rfl ?_
        refine g_icmp_lt (tgt := 73) hX dX4_learnNames_46 (by decide) (fun h9 => absurd h9 ((by rw [ec]; exact nI_nlt hq (by omega)))) (fun _ => ?_)
        refine g_aload_n (i := 2) hX dX4_learnNames_49 rfl rfl ?_
        refine g_iload hX dX4_learnNames_50 rfl ?_
        refine g_ialoadN hX (ia65) rfl ((show i < 11 by omega)) (by first | decide | assumption | omega) dX4_learnNames_52 ?_
        refine g_aload_n (i := 0) hX dX4_learnNames_53 rfl rfl ?_
        refine fX4_12 hX dX4_learnNames_54 ?_
        refine sX4_82 hX ⟨Nat.le_of_ble_eq_true rfl, Nat.le_of_ble_eq_true rfl⟩ (Nat.le_of_ble_eq_true rfl) dX4_learnNames_57 (c_next) ?_
        refine g_iload hX dX4_learnNames_60 rfl ?_
        refine g_irem hX dX4_learnNames_62 (nI_ne0 (by omega) (by omega)) ?_
        refine g_iadd hX dX4_learnNames_63 ?_
        refine g_iload_n (i := 3) hX dX4_learnNames_64 rfl rfl ?_
        refine g_isub hX dX4_learnNames_65 ?_
        refine g_iconst hX dX4_learnNames_66 ic0 ?_
        refine sX4_79 hX (Nat.le_of_ble_eq_true rfl) (Nat.le_of_ble_eq_true rfl) dX4_learnNames_67 ?_
        refine g_goto (tgt := 74) hX dX4_learnNames_70 (by decide) ?_
        refine g_iastoreN hX (ia37) rfl ((show i < 11 by omega)) (by first | decide | assumption | omega) dX4_learnNames_74 ?_
        refine g_iinc hX dX4_learnNames_75 rfl ic1 (by decide) rfl ?_
        refine g_goto (tgt := 23) hX dX4_learnNames_78 (by decide) ?_
        rw [nI_1, ec, hx]
        refine ih (i + 1) _ (by omega) ?_ ?_ ?_
        · show (nextS T).2 58 0 = _
          rw [lrX, if_pos hq, ← hx]
          exact nextS_J T
        · intro j hj
          show upd (T.1 37) i _ j = _
          by_cases e : j = i
          · subst e
            rw [upd_self, lrV, if_pos hq]
          · rw [upd_ne _ _ e]; exact hv j (by omega)
        · exact ((hF.J (by decide)).I (by decide)).R (by decide)
      · refine g_iload hX dX4_learnNames_23 rfl ?_
        refine g_aload_n (i := 1) hX dX4_learnNames_25 rfl rfl ?_
        refine g_alen hX (ia37).1 (ia37).2 dX4_learnNames_26 ?_
        refine g_icmp_ge (tgt := 81) hX dX4_learnNames_27 (by decide) (fun h9 => absurd h9 (nI_ge (show i < 11 by omega) (by decide))) (fun _ => ?_)
        refine g_iload hX dX4_learnNames_30 rfl ?_
        refine g_aload_n (i := 2) hX dX4_learnNames_32 rfl rfl ?_
        refine g_alen hX (ia65).1 (ia65).2 dX4_learnNames_33 ?_
        refine g_icmp_ge (tgt := 81) hX dX4_learnNames_34 (by decide) (fun h9 => absurd h9 (nI_ge (show i < 11 by omega) (by decide))) (fun _ => ?_)
        refine g_aload_n (i := 1) hX dX4_learnNames_37 rfl rfl ?_
        refine g_iload hX dX4_learnNames_38 rfl ?_
        refine g_aload_n (i := 2) hX dX4_learnNames_40 rfl rfl ?_
        refine g_iload hX dX4_learnNames_41 rfl ?_
        refine g_ialoadN hX (ia65) rfl ((show i < 11 by omega)) (by first | decide | assumption | omega) dX4_learnNames_43 ?_
        refine g_iload hX dX4_learnNames_44 rfl ?_
        refine g_icmp_lt (tgt := 73) hX dX4_learnNames_46 (by decide) (fun _ => ?_) (fun h9 => absurd ((by rw [ec]; exact nI_lt (by omega) (by omega))) h9)
        refine g_iconst hX dX4_learnNames_73 ic0 ?_
        refine g_iastoreN hX (ia37) rfl ((show i < 11 by omega)) (by first | decide | assumption | omega) dX4_learnNames_74 ?_
        refine g_iinc hX dX4_learnNames_75 rfl ic1 (by decide) rfl ?_
        refine g_goto (tgt := 23) hX dX4_learnNames_78 (by decide) ?_
        rw [nI_1]
        refine ih (i + 1) _ (by omega) ?_ ?_ ?_
        · show T.2 58 0 = _
          rw [lrX, if_neg hq, hx]
        · intro j hj
          show upd (T.1 37) i _ j = _
          by_cases e : j = i
          · subst e
            rw [upd_self, lrV, if_neg hq]
          · rw [upd_ne _ _ e]; exact hv j (by omega)
        · exact hF.R (by decide)
  refine g_aload_n (i := 0) hX dX4_learnNames_0 rfl rfl ?_
  refine fX4_12 hX dX4_learnNames_1 ?_
  refine g_lload hX dX4_learnNames_4 rfl ?_
  refine sX4_28 hX ⟨Nat.le_of_ble_eq_true rfl, Nat.le_of_ble_eq_true rfl⟩ (Nat.le_of_ble_eq_true rfl) dX4_learnNames_6 (c_begin) ?_
  refine g_iconst hX dX4_learnNames_9 ic2 ?_
  refine g_iload_n (i := 3) hX dX4_learnNames_10 rfl rfl ?_
  refine g_imul hX dX4_learnNames_11 ?_
  refine g_iconst hX dX4_learnNames_12 ic1 ?_
  refine g_iadd hX dX4_learnNames_13 ?_
  refine g_iconst hX dX4_learnNames_14 ic1 ?_
  refine sX4_79 hX (Nat.le_of_ble_eq_true rfl) (Nat.le_of_ble_eq_true rfl) dX4_learnNames_15 ?_
  refine g_istore hX dX4_learnNames_18 (by decide) rfl ?_
  refine g_iconst hX dX4_learnNames_20 ic0 ?_
  refine g_istore hX dX4_learnNames_21 (by decide) rfl ?_
  rw [e2, if_neg (show ¬ nI (2 * r + 1) < 1 from by rw [i_lt, t1, nI_toInt (by omega)]; omega)]
  exact loop 11 0 _ (by omega) (by rw [pR_J]; exact pJ_self S 58 0 x0) (fun j hj => absurd hj (by omega)) ((Fq.rf.J (by decide)).I (by decide))
theorem step_learn {Γ : GG} (x1 x2 : Int32) (x3 : Int64) : Step (fun S P => kX9_learn Γ [.ref (Γ.1 48), .int x1, .int x2, .long x3] S P) (fun S P => kX10_learn Γ [.ref (Γ.1 67), .int x1, .int x2, .long x3] S P) := by
  intro S hR
  have l9 : (9 : Int64).toInt = 9 := by decide
  by_cases h1 : inB x1 10
  case neg =>
    refine ⟨-1000001, fun S1 => S1 = S, ?_, ?_⟩
    · refine oX9_learn (fun X hX hE => ?_)
      refine g_iload_n (i := 1) hX dX9_learn_0 rfl rfl ?_
      refine g_bipush hX dX9_learn_1 bp10 ?_
      refine sX9_96 hX ⟨Nat.le_of_ble_eq_true rfl, Nat.le_of_ble_eq_true rfl⟩ (Nat.le_of_ble_eq_true rfl) dX9_learn_3 (isB_f (n := 10) (by decide) h1) ?_
      refine g_if_eq (tgt := 18) hX dX9_learn_6 (by decide) (fun _ => ?_) (fun h9 => absurd (rfl) h9)
      refine g_ldc hX ccX9_100 dX9_learn_18 ?_
      refine g_iret (st := []) hX hE rfl dX9_learn_20 (⟨_, rfl, rfl, rfl⟩)
    · rintro S1 rfl
      refine oX10_learn (fun X hX hE => ?_)
      rw [inB_iff (by decide)] at h1
      refine g_aload_n (i := 0) hX dX10_learn_0 rfl rfl ?_
      refine g_iconst hX dX10_learn_1 ic0 ?_
      refine pX10_78 hX dX10_learn_2 ?_
      refine g_iload_n (i := 1) hX dX10_learn_5 rfl rfl ?_
      refine g_i2l hX dX10_learn_6 ?_
      refine g_lconst (v := 0) hX dX10_learn_7 (by decide) ?_
      refine g_ldc2_w hX ccX10_112 dX10_learn_8 ?_
      refine sX10_87 hX ⟨Nat.le_of_ble_eq_true rfl, Nat.le_of_ble_eq_true rfl⟩ (Nat.le_of_ble_eq_true rfl) dX10_learn_11 (c_inI_f (by rw [L0, l9]; omega)) ?_
      refine g_if_eq (tgt := 29) hX dX10_learn_14 (by decide) (fun _ => ?_) (fun h9 => absurd (rfl) h9)
      refine g_ldc hX ccX10_97 dX10_learn_29 ?_
      refine g_iret (st := []) hX hE rfl dX10_learn_31 (⟨_, rfl, rfl, hR.thrown⟩)
  obtain ⟨r, hr, rfl⟩ := h1
  have cR : ∀ T : St, kX10_in Γ [.long (nI r).toInt64, .long 0, .long 9] T (rI 1 T) := fun T => c_inI_t (by rw [nI_toInt (by omega), L0]; omega) (by rw [nI_toInt (by omega), l9]; omega)
  by_cases h2 : inB x2 10
  case neg =>
    refine ⟨-1000001, fun S1 => S1 = S, ?_, ?_⟩
    · refine oX9_learn (fun X hX hE => ?_)
      refine g_iload_n (i := 1) hX dX9_learn_0 rfl rfl ?_
      refine g_bipush hX dX9_learn_1 bp10 ?_
      refine sX9_96 hX ⟨Nat.le_of_ble_eq_true rfl, Nat.le_of_ble_eq_true rfl⟩ (Nat.le_of_ble_eq_true rfl) dX9_learn_3 (isB_t (n := 10) hr (by decide)) ?_
      refine g_if_eq (tgt := 18) hX dX9_learn_6 (by decide) (fun h9 => absurd h9 ((by decide))) (fun _ => ?_)
      refine g_iload_n (i := 2) hX dX9_learn_9 rfl rfl ?_
      refine g_bipush hX dX9_learn_10 bp10 ?_
      refine sX9_96 hX ⟨Nat.le_of_ble_eq_true rfl, Nat.le_of_ble_eq_true rfl⟩ (Nat.le_of_ble_eq_true rfl) dX9_learn_12 (isB_f (n := 10) (by decide) h2) ?_
      refine g_if_ne (tgt := 21) hX dX9_learn_15 (by decide) (fun h9 => absurd (rfl) h9) (fun _ => ?_)
      refine g_ldc hX ccX9_100 dX9_learn_18 ?_
      refine g_iret (st := []) hX hE rfl dX9_learn_20 (⟨_, rfl, rfl, rfl⟩)
    · rintro S1 rfl
      refine oX10_learn (fun X hX hE => ?_)
      rw [inB_iff (by decide)] at h2
      refine g_aload_n (i := 0) hX dX10_learn_0 rfl rfl ?_
      refine g_iconst hX dX10_learn_1 ic0 ?_
      refine pX10_78 hX dX10_learn_2 ?_
      refine g_iload_n (i := 1) hX dX10_learn_5 rfl rfl ?_
      refine g_i2l hX dX10_learn_6 ?_
      refine g_lconst (v := 0) hX dX10_learn_7 (by decide) ?_
      refine g_ldc2_w hX ccX10_112 dX10_learn_8 ?_
      refine sX10_87 hX ⟨Nat.le_of_ble_eq_true rfl, Nat.le_of_ble_eq_true rfl⟩ (Nat.le_of_ble_eq_true rfl) dX10_learn_11 (cR _) ?_
      refine g_if_eq (tgt := 29) hX dX10_learn_14 (by decide) (fun h9 => absurd h9 ((by decide))) (fun _ => ?_)
      refine g_iload_n (i := 2) hX dX10_learn_17 rfl rfl ?_
      refine g_i2l hX dX10_learn_18 ?_
      refine g_lconst (v := 0) hX dX10_learn_19 (by decide) ?_
      refine g_ldc2_w hX ccX10_112 dX10_learn_20 ?_
      refine sX10_87 hX ⟨Nat.le_of_ble_eq_true rfl, Nat.le_of_ble_eq_true rfl⟩ (Nat.le_of_ble_eq_true rfl) dX10_learn_23 (c_inI_f (by rw [L0, l9]; omega)) ?_
      refine g_if_ne (tgt := 32) hX dX10_learn_26 (by decide) (fun h9 => absurd (rfl) h9) (fun _ => ?_)
      refine g_ldc hX ccX10_97 dX10_learn_29 ?_
      refine g_iret (st := []) hX hE rfl dX10_learn_31 (⟨_, rfl, rfl, hR.thrown⟩)
  obtain ⟨k, hk, rfl⟩ := h2
  have cK : ∀ T : St, kX10_in Γ [.long (nI k).toInt64, .long 0, .long 9] T (rI 1 T) := fun T => c_inI_t (by rw [nI_toInt (by omega), L0]; omega) (by rw [nI_toInt (by omega), l9]; omega)
  obtain ⟨pu, p1, p2, p3⟩ := hR.2.2.2.2.2.2.2.1.2.2.1
  have e10 : (10 : Int32) - nI r = nI (10 - r) := by rw [show (10 : Int32) = nI 10 from rfl, nI_sub (by omega)]
  by_cases hp : 10 - r ≤ pu
  case neg =>
    refine ⟨-1000002, fun S1 => S1 = S, ?_, ?_⟩
    · refine oX9_learn (fun X hX hE => ?_)
      refine g_iload_n (i := 1) hX dX9_learn_0 rfl rfl ?_
      refine g_bipush hX dX9_learn_1 bp10 ?_
      refine sX9_96 hX ⟨Nat.le_of_ble_eq_true rfl, Nat.le_of_ble_eq_true rfl⟩ (Nat.le_of_ble_eq_true rfl) dX9_learn_3 (isB_t (n := 10) hr (by decide)) ?_
      refine g_if_eq (tgt := 18) hX dX9_learn_6 (by decide) (fun h9 => absurd h9 ((by decide))) (fun _ => ?_)
      refine g_iload_n (i := 2) hX dX9_learn_9 rfl rfl ?_
      refine g_bipush hX dX9_learn_10 bp10 ?_
      refine sX9_96 hX ⟨Nat.le_of_ble_eq_true rfl, Nat.le_of_ble_eq_true rfl⟩ (Nat.le_of_ble_eq_true rfl) dX9_learn_12 (isB_t (n := 10) hk (by decide)) ?_
      refine g_if_ne (tgt := 21) hX dX9_learn_15 (by decide) (fun _ => ?_) (fun h9 => absurd h9 ((by decide)))
      refine g_aload_n (i := 0) hX dX9_learn_21 rfl rfl ?_
      refine fX9_92 hX dX9_learn_22 ?_
      refine g_bipush hX dX9_learn_25 bp10 ?_
      refine g_iload_n (i := 1) hX dX9_learn_27 rfl rfl ?_
      refine g_isub hX dX9_learn_28 ?_
      refine g_icmp_ge (tgt := 35) hX dX9_learn_29 (by decide) (fun h9 => absurd h9 ((by rw [p2, e10]; exact nI_ge (by omega) (by omega)))) (fun _ => ?_)
      refine g_ldc hX ccX9_241 dX9_learn_32 ?_
      refine g_iret (st := []) hX hE rfl dX9_learn_34 (⟨_, rfl, rfl, rfl⟩)
    · rintro S1 rfl
      refine oX10_learn (fun X hX hE => ?_)
      have p3' : (S0 S1).1 67 36 = nI pu := p3
      refine g_aload_n (i := 0) hX dX10_learn_0 rfl rfl ?_
      refine g_iconst hX dX10_learn_1 ic0 ?_
      refine pX10_78 hX dX10_learn_2 ?_
      refine g_iload_n (i := 1) hX dX10_learn_5 rfl rfl ?_
      refine g_i2l hX dX10_learn_6 ?_
      refine g_lconst (v := 0) hX dX10_learn_7 (by decide) ?_
      refine g_ldc2_w hX ccX10_112 dX10_learn_8 ?_
      refine sX10_87 hX ⟨Nat.le_of_ble_eq_true rfl, Nat.le_of_ble_eq_true rfl⟩ (Nat.le_of_ble_eq_true rfl) dX10_learn_11 (cR _) ?_
      refine g_if_eq (tgt := 29) hX dX10_learn_14 (by decide) (fun h9 => absurd h9 ((by decide))) (fun _ => ?_)
      refine g_iload_n (i := 2) hX dX10_learn_17 rfl rfl ?_
      refine g_i2l hX dX10_learn_18 ?_
      refine g_lconst (v := 0) hX dX10_learn_19 (by decide) ?_
      refine g_ldc2_w hX ccX10_112 dX10_learn_20 ?_
      refine sX10_87 hX ⟨Nat.le_of_ble_eq_true rfl, Nat.le_of_ble_eq_true rfl⟩ (Nat.le_of_ble_eq_true rfl) dX10_learn_23 (cK _) ?_
      refine g_if_ne (tgt := 32) hX dX10_learn_26 (by decide) (fun _ => ?_) (fun h9 => absurd h9 ((by decide)))
      refine g_aload_n (i := 0) hX dX10_learn_32 rfl rfl ?_
      refine fX10_72 hX dX10_learn_33 ?_
      refine g_bipush hX dX10_learn_36 bp10 ?_
      refine g_iload_n (i := 1) hX dX10_learn_38 rfl rfl ?_
      refine g_isub hX dX10_learn_39 ?_
      refine g_icmp_ge (tgt := 47) hX dX10_learn_40 (by decide) (fun h9 => absurd h9 ((by rw [p3', e10]; exact nI_ge (by omega) (by omega)))) (fun _ => ?_)
      refine g_ldc_w hX ccX10_278 dX10_learn_43 ?_
      refine g_iret (st := []) hX hE rfl dX10_learn_46 (⟨_, rfl, rfl, hR.thrown⟩)
  obtain ⟨n, tk, nm, gr, a, b, -⟩ := hR.2.1
  have hn := a.1
  have hcl : ∀ i, cntE (slotP tk nm gr 1) n i ≤ 40 := fun i => Nat.le_trans (cntE_le _ _ _) hn
  refine ⟨nI (pu - (10 - r)), fun S1 => (∀ i, i < 11 → S1.1 37 i = lrV (cntE (slotP tk nm gr 1) n) r k x3 i) ∧ Fq [37, 65] [(58, 0), (58, 1), (48, 16)] S S1 ∧ S1.1 48 16 = nI (pu - (10 - r)), ?_, ?_⟩
  · refine oX9_learn (fun X hX hE => ?_)
    have hcs : kX6_countSlots Γ [.ref (Γ.1 16), .int 1, .ref (Γ.1 65)] (pI S 48 16 (nI (pu - (10 - r)))) (rV (pR (pI S 48 16 (nI (pu - (10 - r)))) 65 (cntF (slotP tk nm gr 1) n ((pI S 48 16 (nI (pu - (10 - r)))).1 65)))) := c_countSlots (p := 1) ir16 (a.q (K := []) (O := [(48, 16)]) (Fq.rf.I (by decide)) (by decide)) (by decide) ia65 (by decide)
    refine g_iload_n (i := 1) hX dX9_learn_0 rfl rfl ?_
    refine g_bipush hX dX9_learn_1 bp10 ?_
    refine sX9_96 hX ⟨Nat.le_of_ble_eq_true rfl, Nat.le_of_ble_eq_true rfl⟩ (Nat.le_of_ble_eq_true rfl) dX9_learn_3 (isB_t (n := 10) hr (by decide)) ?_
    refine g_if_eq (tgt := 18) hX dX9_learn_6 (by decide) (fun h9 => absurd h9 ((by decide))) (fun _ => ?_)
    refine g_iload_n (i := 2) hX dX9_learn_9 rfl rfl ?_
    refine g_bipush hX dX9_learn_10 bp10 ?_
    refine sX9_96 hX ⟨Nat.le_of_ble_eq_true rfl, Nat.le_of_ble_eq_true rfl⟩ (Nat.le_of_ble_eq_true rfl) dX9_learn_12 (isB_t (n := 10) hk (by decide)) ?_
    refine g_if_ne (tgt := 21) hX dX9_learn_15 (by decide) (fun _ => ?_) (fun h9 => absurd h9 ((by decide)))
    refine g_aload_n (i := 0) hX dX9_learn_21 rfl rfl ?_
    refine fX9_92 hX dX9_learn_22 ?_
    refine g_bipush hX dX9_learn_25 bp10 ?_
    refine g_iload_n (i := 1) hX dX9_learn_27 rfl rfl ?_
    refine g_isub hX dX9_learn_28 ?_
    refine g_icmp_ge (tgt := 35) hX dX9_learn_29 (by decide) (fun _ => ?_) (fun h9 => absurd ((by rw [p2, e10]; exact nI_le (by omega) (by omega))) h9)
    refine g_aload_n (i := 0) hX dX9_learn_35 rfl rfl ?_
    refine g_dup hX dX9_learn_36 rfl ?_
    refine fX9_92 hX dX9_learn_37 ?_
    refine g_bipush hX dX9_learn_40 bp10 ?_
    refine g_iload_n (i := 1) hX dX9_learn_42 rfl rfl ?_
    refine g_isub hX dX9_learn_43 ?_
    refine g_isub hX dX9_learn_44 ?_
    refine pX9_92 hX dX9_learn_45 ?_
    rw [p2, e10, nI_sub (by omega)]
    have hln := c_learnNames (Γ := Γ) (S := pR (pI S 48 16 (nI (pu - (10 - r)))) 65 (cntF (slotP tk nm gr 1) n ((pI S 48 16 (nI (pu - (10 - r)))).1 65))) (r := r) (k := k) (x0 := x3) (c := cntE (slotP tk nm gr 1) n) hr hk (fun i hi => ⟨by rw [pR_self]; exact if_pos hi, hcl i⟩)
    refine g_aload_n (i := 0) hX dX9_learn_48 rfl rfl ?_
    refine fX9_18 hX dX9_learn_49 ?_
    refine g_iconst hX dX9_learn_52 ic1 ?_
    refine g_aload_n (i := 0) hX dX9_learn_53 rfl rfl ?_
    refine fX9_70 hX dX9_learn_54 ?_
    refine sX9_169 hX ir16 ⟨Nat.le_of_ble_eq_true rfl, Nat.le_of_ble_eq_true rfl⟩ (Nat.le_of_ble_eq_true rfl) dX9_learn_57 (hcs) ?_
    refine g_aload_n (i := 0) hX dX9_learn_60 rfl rfl ?_
    refine fX9_45 hX dX9_learn_61 ?_
    refine g_aload_n (i := 0) hX dX9_learn_64 rfl rfl ?_
    refine fX9_38 hX dX9_learn_65 ?_
    refine fX9_177 hX dX9_learn_68 ?_
    refine g_iconst hX dX9_learn_71 ic1 ?_
    refine g_aaloadN (i := 1) hX (show 54 < NC by decide) (Or.inr rfl) (show lay 54 = (3, 4, [36, 37, 38, 39]) by decide) rfl (by decide) (by decide) (rfl) dX9_learn_72 ?_
    refine g_aload_n (i := 0) hX dX9_learn_73 rfl rfl ?_
    refine fX9_70 hX dX9_learn_74 ?_
    refine g_iload_n (i := 1) hX dX9_learn_77 rfl rfl ?_
    refine g_iload_n (i := 2) hX dX9_learn_78 rfl rfl ?_
    refine g_lload_n (i := 3) hX dX9_learn_79 rfl rfl ?_
    refine eX9_254 hX ⟨Nat.le_of_ble_eq_true rfl, Nat.le_of_ble_eq_true rfl⟩ (Nat.le_of_ble_eq_true rfl) dX9_learn_80 (hln) (fun S1 hS1 => ?_)
    refine g_aload_n (i := 0) hX dX9_learn_83 rfl rfl ?_
    refine fX9_92 hX dX9_learn_84 ?_
    refine g_iret (st := []) hX hE rfl dX9_learn_87 (⟨_, rfl, ?_, hS1.1, ?_, ?_⟩)
    · rw [(hS1.2.s (k := 48) (j := 16) (by decide)).1]; rfl
    · exact ((Fq.rf.I (by decide)).R (by decide)).tr (hS1.2.mono (by decide) (by decide))
    · rw [(hS1.2.s (k := 48) (j := 16) (by decide)).1]; rfl
  · rintro S1 ⟨q1, hF1, q3⟩
    refine oX10_learn (fun X hX hE => ?_)
    have p3' : (S0 S1).1 67 36 = nI pu := by show S1.1 67 36 = _; rw [(hF1.s (k := 67) (j := 36) (by decide)).1]; exact p3
    have rr : RwR S1 0 n tk nm gr := b.q hF1 (by decide)
    have e75 : S1.1 75 = S.1 75 := hF1.r (by decide)
    have e2 : (2 : Int32) * nI r + 1 = nI (2 * r + 1) := by rw [show (2 : Int32) = nI 2 from rfl, nI_mul, nI_1]
    have e10i : ∀ i, (10 : Int32) + nI i = nI (10 + i) := fun i => by rw [show (10 : Int32) = nI 10 from rfl, nI_add2]
    have loop : ∀ d i T, i + d = 11 → T.2 67 22 = lrX (cntE (slotP tk nm gr 1) n) k x3 i → (∀ j, j < i → T.1 75 (10 + j) = lrV (cntE (slotP tk nm gr 1) n) r k x3 j) → (∀ j, ¬ (10 ≤ j ∧ j < 21) → T.1 75 j = S.1 75 j) → T.1 67 36 = nI (pu - (10 - r)) → Fq [75] [(67, 0), (67, 22), (67, 23), (67, 36)] S1 T → G Γ X T 68 [(0, .ref (Γ.1 67)), (1, .int (nI r)), (2, .int (nI k)), (3, .long x3), (5, .int (nI i))] [] := by
      intro d
      induction d with
      | zero =>
        intro i T hi hx hv ho hpu hF
        obtain rfl : i = 11 := by omega
        refine g_iload hX dX10_learn_68 rfl ?_
        refine g_bipush hX dX10_learn_70 bp11 ?_
        refine g_icmp_ge (tgt := 136) hX dX10_learn_72 (by decide) (fun _ => ?_) (fun h9 => absurd (Int32.le_refl _) h9)
        refine g_aload_n (i := 0) hX dX10_learn_136 rfl rfl ?_
        refine fX10_72 hX dX10_learn_137 ?_
        refine g_iret (st := []) hX hE rfl dX10_learn_140 (⟨_, rfl, hpu, ?_⟩)
        have hFF : Fq [37, 65, 75] [(58, 0), (58, 1), (48, 16), (67, 0), (67, 22), (67, 23), (67, 36)] S T := (hF1.mono (by decide) (by decide)).tr (hF.mono (by decide) (by decide))
        have hW : WtRel T := by
          refine hR.2.2.2.1.names (fun i => (lrV (cntE (slotP tk nm gr 1) n) r k x3 i).toNatClampNeg) (fun j hj => ?_) (hFF.r (by decide)) (hFF.r (by decide)) (hFF.r (by decide)) ho
          obtain ⟨v, v1, v2⟩ := lrV_nat (cntE (slotP tk nm gr 1) n) (r := r) (k := k) x3 (i := j) (hcl j) hr
          rw [hF.r (k := 37) (by decide), q1 j hj, hv j hj, v2, nI_clamp (by omega)]
          exact ⟨v1, rfl, rfl⟩
        have hM : MsRel T := by
          obtain ⟨m1, m2, m3, m4, m5, m6⟩ := hR.2.2.2.2.2.2.2.1
          refine ⟨?_, ?_, ⟨pu - (10 - r), by omega, ?_, hpu⟩, ?_, ?_, ?_⟩
          · rw [(hFF.s (k := 48) (j := 15) (by decide)).1, (hFF.s (k := 67) (j := 1) (by decide)).1]; exact m1
          · rw [(hFF.s (k := 48) (j := 14) (by decide)).1, (hFF.s (k := 67) (j := 14) (by decide)).1]; exact m2
          · rw [(hF.s (k := 48) (j := 16) (by decide)).1]; exact q3
          · rw [(hFF.s (k := 48) (j := 12) (by decide)).1, (hFF.s (k := 67) (j := 26) (by decide)).1]; exact m4
          · rw [(hFF.s (k := 67) (j := 26) (by decide)).1]; exact m5
          · rw [(hFF.s (k := 48) (j := 13) (by decide)).2, (hFF.s (k := 67) (j := 27) (by decide)).2]; exact m6
        obtain ⟨r1, r2, r3, r4, r5, r6, r7, r8, r9⟩ := hR
        exact ⟨r1.q hFF (by decide), r2.q hFF (by decide), r3.q hFF (by decide), hW, r5.q hFF (by decide), r6.q hFF (by decide), r7.q hFF (by decide), hM, r9.q hFF (by decide)⟩
      | succ d ih =>
        intro i T hi hx hv ho hpu hF
        have hcm : kX10_cameOf Γ [.ref (Γ.1 67), .int (nI i)] T (rI (nI (cntE (slotP tk nm gr 1) n i)) T) := c_cameOf (n := n) (tk := tk) (nm := nm) (gr := gr) (by omega) hn (rr.q hF (by decide)) (fun i hi => (a.2.2 i hi).2.2.1)
        have hci := hcl i
        have fin : ∀ (T' : St) (v : Int32), T'.2 67 22 = lrX (cntE (slotP tk nm gr 1) n) k x3 (i + 1) → T'.1 75 = T.1 75 → T'.1 67 36 = T.1 67 36 → Fq [75] [(67, 0), (67, 22), (67, 23), (67, 36)] S1 T' → (if v < 0 then 0 else v) = lrV (cntE (slotP tk nm gr 1) n) r k x3 i → G Γ X T' 109 [(0, .ref (Γ.1 67)), (1, .int (nI r)), (2, .int (nI k)), (3, .long x3), (5, .int (nI i)), (6, .int (nI (cntE (slotP tk nm gr 1) n i))), (7, .int v)] [] := by
          intro T' v hx' h75 h36 hF' hv'
          have go : G Γ X (pI T' 75 (10 + i) (lrV (cntE (slotP tk nm gr 1) n) r k x3 i)) 68 [(0, .ref (Γ.1 67)), (1, .int (nI r)), (2, .int (nI k)), (3, .long x3), (5, .int (nI (i + 1)))] [] := by
            refine ih (i + 1) _ (by omega) hx' ?_ ?_ ?_ ?_
            · intro j hj
              show upd (T'.1 75) (10 + i) _ (10 + j) = _
              by_cases e : j = i
              · subst e; rw [upd_self]
              · rw [upd_ne _ _ (by omega), h75]; exact hv j (by omega)
            · intro j hj
              show upd (T'.1 75) (10 + i) _ j = _
              rw [upd_ne _ _ (by omega), h75]; exact ho j hj
            · show T'.1 67 36 = _
              rw [h36]; exact hpu
            · exact hF'.R (by decide)
          by_cases hneg : v < 0
          · rw [if_pos hneg] at hv'
            refine g_aload_n (i := 0) hX dX10_learn_109 rfl rfl ?_
            refine fX10_31 hX dX10_learn_110 ?_
            refine g_bipush hX dX10_learn_113 bp10 ?_
            refine g_iload hX dX10_learn_115 rfl ?_
            refine g_iadd hX dX10_learn_117 ?_
            refine g_iload hX dX10_learn_118 rfl ?_
            refine g_if_ge (tgt := 127) hX dX10_learn_120 (by decide) (fun h9 => absurd h9 ((by rw [i_lt, t0] at hneg; rw [i_le, t0]; omega))) (fun _ => ?_)
            refine g_iconst hX dX10_learn_123 ic0 ?_
            refine g_goto (tgt := 129) hX dX10_learn_124 (by decide) ?_
            refine g_iastoreN hX (ia75) (e10i i) ((show 10 + i < 49 by omega)) (by first | decide | assumption | omega) dX10_learn_129 ?_
            refine g_iinc hX dX10_learn_130 rfl ic1 (by decide) rfl ?_
            refine g_goto (tgt := 68) hX dX10_learn_133 (by decide) ?_
            rw [nI_1, hv']
            exact g_weak go (as_c rfl (as_c rfl (as_c rfl (as_c rfl (as_c rfl (as_n))))))
          · rw [if_neg hneg] at hv'
            refine g_aload_n (i := 0) hX dX10_learn_109 rfl rfl ?_
            refine fX10_31 hX dX10_learn_110 ?_
            refine g_bipush hX dX10_learn_113 bp10 ?_
            refine g_iload hX dX10_learn_115 rfl ?_
            refine g_iadd hX dX10_learn_117 ?_
            refine g_iload hX dX10_learn_118 rfl ?_
            refine g_if_ge (tgt := 127) hX dX10_learn_120 (by decide) (fun _ => ?_) (fun h9 => absurd ((by rw [i_lt, t0] at hneg; rw [i_le, t0]; omega)) h9)
            refine g_iload hX dX10_learn_127 rfl ?_
            refine g_iastoreN hX (ia75) (e10i i) ((show 10 + i < 49 by omega)) (by first | decide | assumption | omega) dX10_learn_129 ?_
            refine g_iinc hX dX10_learn_130 rfl ic1 (by decide) rfl ?_
            refine g_goto (tgt := 68) hX dX10_learn_133 (by decide) ?_
            rw [nI_1, hv']
            exact g_weak go (as_c rfl (as_c rfl (as_c rfl (as_c rfl (as_c rfl (as_n))))))
        by_cases hq : k ≤ cntE (slotP tk nm gr 1) n i
        · refine g_iload hX dX10_learn_68 rfl ?_
          refine g_bipush hX dX10_learn_70 bp11 ?_
          refine g_icmp_ge (tgt := 136) hX dX10_learn_72 (by decide) (fun h9 => absurd h9 (nI_ge (show i < 11 by omega) (by decide))) (fun _ => ?_)
          refine g_aload_n (i := 0) hX dX10_learn_75 rfl rfl ?_
          refine g_iload hX dX10_learn_76 rfl ?_
          refine sX10_125 hX ⟨Nat.le_of_ble_eq_true rfl, Nat.le_of_ble_eq_true rfl⟩ (Nat.le_of_ble_eq_true rfl) dX10_learn_78 (hcm) ?_
          refine g_istore hX dX10_learn_81 (by decide) rfl ?_
          refine g_iconst hX dX10_learn_83 ic0 ?_
          refine g_istore hX dX10_learn_84 (by decide) rfl ?_
          refine g_iload hX dX10_learn_86 rfl ?_
          refine g_iload_n (i := 2) hX dX10_learn_88 rfl rfl ?_
          refine g_icmp_lt (tgt := 109) hX dX10_learn_89 (by decide) (fun h9 => absurd h9 (nI_nlt hq (by omega))) (fun _ => ?_)
          refine g_iload hX dX10_learn_92 rfl ?_
          refine g_aload_n (i := 0) hX dX10_learn_94 rfl rfl ?_
          refine sX10_225 hX ⟨Nat.le_of_ble_eq_true rfl, Nat.le_of_ble_eq_true rfl⟩ (Nat.le_of_ble_eq_true rfl) dX10_learn_95 (c_lot) ?_
          refine g_iconst hX dX10_learn_98 ic2 ?_
          refine g_iload_n (i := 1) hX dX10_learn_99 rfl rfl ?_
          refine g_imul hX dX10_learn_100 ?_
          refine g_iconst hX dX10_learn_101 ic1 ?_
          refine g_iadd hX dX10_learn_102 ?_
          refine g_irem hX dX10_learn_103 ((by rw [e2]; exact nI_ne0 (by omega) (by omega))) ?_
          refine g_iadd hX dX10_learn_104 ?_
          refine g_iload_n (i := 1) hX dX10_learn_105 rfl rfl ?_
          refine g_isub hX dX10_learn_106 ?_
          refine g_istore hX dX10_learn_107 (by decide) rfl ?_
          rw [e2, hx]
          refine fin (lotS T) _ ?_ rfl rfl ?_ ?_
          · rw [lrX, if_pos hq, ← hx]; exact lotS_J T
          · exact (hF.J (by decide)).I (by decide)
          · rw [lrV, if_pos hq]
        · refine g_iload hX dX10_learn_68 rfl ?_
          refine g_bipush hX dX10_learn_70 bp11 ?_
          refine g_icmp_ge (tgt := 136) hX dX10_learn_72 (by decide) (fun h9 => absurd h9 (nI_ge (show i < 11 by omega) (by decide))) (fun _ => ?_)
          refine g_aload_n (i := 0) hX dX10_learn_75 rfl rfl ?_
          refine g_iload hX dX10_learn_76 rfl ?_
          refine sX10_125 hX ⟨Nat.le_of_ble_eq_true rfl, Nat.le_of_ble_eq_true rfl⟩ (Nat.le_of_ble_eq_true rfl) dX10_learn_78 (hcm) ?_
          refine g_istore hX dX10_learn_81 (by decide) rfl ?_
          refine g_iconst hX dX10_learn_83 ic0 ?_
          refine g_istore hX dX10_learn_84 (by decide) rfl ?_
          refine g_iload hX dX10_learn_86 rfl ?_
          refine g_iload_n (i := 2) hX dX10_learn_88 rfl rfl ?_
          refine g_icmp_lt (tgt := 109) hX dX10_learn_89 (by decide) (fun _ => ?_) (fun h9 => absurd (nI_lt (by omega) (by omega)) h9)
          refine fin T 0 (by rw [lrX, if_neg hq, hx]) rfl rfl hF ?_
          rw [lrV, if_neg hq]; rfl
    refine g_aload_n (i := 0) hX dX10_learn_0 rfl rfl ?_
    refine g_iconst hX dX10_learn_1 ic0 ?_
    refine pX10_78 hX dX10_learn_2 ?_
    refine g_iload_n (i := 1) hX dX10_learn_5 rfl rfl ?_
    refine g_i2l hX dX10_learn_6 ?_
    refine g_lconst (v := 0) hX dX10_learn_7 (by decide) ?_
    refine g_ldc2_w hX ccX10_112 dX10_learn_8 ?_
    refine sX10_87 hX ⟨Nat.le_of_ble_eq_true rfl, Nat.le_of_ble_eq_true rfl⟩ (Nat.le_of_ble_eq_true rfl) dX10_learn_11 (cR _) ?_
    refine g_if_eq (tgt := 29) hX dX10_learn_14 (by decide) (fun h9 => absurd h9 ((by decide))) (fun _ => ?_)
    refine g_iload_n (i := 2) hX dX10_learn_17 rfl rfl ?_
    refine g_i2l hX dX10_learn_18 ?_
    refine g_lconst (v := 0) hX dX10_learn_19 (by decide) ?_
    refine g_ldc2_w hX ccX10_112 dX10_learn_20 ?_
    refine sX10_87 hX ⟨Nat.le_of_ble_eq_true rfl, Nat.le_of_ble_eq_true rfl⟩ (Nat.le_of_ble_eq_true rfl) dX10_learn_23 (cK _) ?_
    refine g_if_ne (tgt := 32) hX dX10_learn_26 (by decide) (fun _ => ?_) (fun h9 => absurd h9 ((by decide)))
    refine g_aload_n (i := 0) hX dX10_learn_32 rfl rfl ?_
    refine fX10_72 hX dX10_learn_33 ?_
    refine g_bipush hX dX10_learn_36 bp10 ?_
    refine g_iload_n (i := 1) hX dX10_learn_38 rfl rfl ?_
    refine g_isub hX dX10_learn_39 ?_
    refine g_icmp_ge (tgt := 47) hX dX10_learn_40 (by decide) (fun _ => ?_) (fun h9 => absurd ((by rw [p3', e10]; exact nI_le (by omega) (by omega))) h9)
    refine g_aload_n (i := 0) hX dX10_learn_47 rfl rfl ?_
    refine g_dup hX dX10_learn_48 rfl ?_
    refine fX10_72 hX dX10_learn_49 ?_
    refine g_bipush hX dX10_learn_52 bp10 ?_
    refine g_iload_n (i := 1) hX dX10_learn_54 rfl rfl ?_
    refine g_isub hX dX10_learn_55 ?_
    refine g_isub hX dX10_learn_56 ?_
    refine pX10_72 hX dX10_learn_57 ?_
    refine g_aload_n (i := 0) hX dX10_learn_60 rfl rfl ?_
    refine g_lload_n (i := 3) hX dX10_learn_61 rfl rfl ?_
    refine pX10_211 hX dX10_learn_62 ?_
    refine g_iconst hX dX10_learn_65 ic0 ?_
    refine g_istore hX dX10_learn_66 (by decide) rfl ?_
    rw [p3', e10, nI_sub (by omega)]
    exact loop 11 0 _ (by omega) (pJ_self _ 67 22 x3) (fun j hj => absurd hj (by omega)) (fun j _ => by show S1.1 75 j = _; rw [e75]) rfl (((Fq.rf.I (by decide)).I (by decide)).J (by decide))
