/-! promise 9: feed -/
theorem toI32_nat (x : Int64) : x.toInt32.toBitVec.toNat = x.toBitVec.toNat % 2 ^ 32 := by
  rw [Int64.toBitVec_toInt32, BitVec.signExtend_eq_setWidth_of_le _ (by decide)]; exact BitVec.toNat_setWidth _ _
/-- byte i of a long -/
def byN (w : Int64) (i : Nat) : Nat := w.toBitVec.toNat / 2 ^ (8 * i) % 256
theorem ushrL_nat (w : Int64) (s : Nat) (y : Int32) (hy : (y.toInt64.toUInt64 &&& Int64.toUInt64 63).toBitVec.toNat % 64 = s) : (ushrL w y).toBitVec.toNat = w.toBitVec.toNat / 2 ^ s := by
  unfold ushrL
  show (w.toBitVec >>> ((y.toInt64.toUInt64 &&& Int64.toUInt64 63).toBitVec % 64#64)).toNat = _
  rw [BitVec.ushiftRight_eq', BitVec.toNat_ushiftRight, Nat.shiftRight_eq_div_pow]
  congr 2
theorem feedC : ∀ i, i < 8 → (((8 : Int32) * nI i).toInt64.toUInt64 &&& Int64.toUInt64 63).toBitVec.toNat % 64 = 8 * i := by decide +kernel
theorem by_class (w : Int64) {i : Nat} (hi : i < 8) : (ushrL w (8 * nI i)).toInt32 &&& 255 = nI (byN w i) := by
  rw [pk_and _ 8 (by decide), toI32_nat, ushrL_nat w (8 * i) _ (feedC i hi)]
  unfold byN
  congr 1
  rw [Nat.mod_mod_of_dvd _ (by decide)]
theorem feedR : ∀ i, i < 8 → (((8 : Int32) * nI i).toInt64 &&& 63).toBitVec.smod 64#64 = BitVec.ofNat 64 (8 * i) := by decide +kernel
theorem by_ref (w : Int64) {i : Nat} (hi : i < 8) : (w >>> (((8 : Int32) * nI i).toInt64 &&& 63) &&& 255).toInt32 = nI (byN w i) := by
  have key : (w >>> (((8 : Int32) * nI i).toInt64 &&& 63) &&& 255).toInt32 = (ushrL w (8 * nI i)).toInt32 &&& 255 := by
    apply Int32.toBitVec_inj.mp
    rw [Int64.toBitVec_toInt32, Int32.toBitVec_and, Int64.toBitVec_toInt32, Int64.toBitVec_and]
    rw [BitVec.signExtend_eq_setWidth_of_le _ (by decide), BitVec.signExtend_eq_setWidth_of_le _ (by decide)]
    have e1 : (w >>> (((8 : Int32) * nI i).toInt64 &&& 63)).toBitVec = w.toBitVec.sshiftRight (8 * i) := by
      show BitVec.sshiftRight' w.toBitVec ((((8 : Int32) * nI i).toInt64 &&& 63).toBitVec.smod 64#64) = _
      rw [feedR i hi, BitVec.sshiftRight'_ofNat_eq_sshiftRight, Nat.mod_eq_of_lt (by omega)]
    have e2 : (ushrL w (8 * nI i)).toBitVec = w.toBitVec >>> (8 * i) := by
      apply BitVec.eq_of_toNat_eq
      rw [ushrL_nat w (8 * i) _ (feedC i hi), BitVec.toNat_ushiftRight, Nat.shiftRight_eq_div_pow]
    rw [e1, e2]
    apply BitVec.eq_of_getLsbD_eq
    intro j hj
    rw [BitVec.getLsbD_setWidth, BitVec.getLsbD_and, BitVec.getLsbD_and, BitVec.getLsbD_setWidth, BitVec.getLsbD_sshiftRight, BitVec.getLsbD_ushiftRight]
    have h255 : ∀ j, j < 32 → (255 : Int64).toBitVec.getLsbD j = decide (j < 8) ∧ (255 : Int32).toBitVec.getLsbD j = decide (j < 8) := by decide
    rw [(h255 j hj).1, (h255 j hj).2]
    by_cases h8 : j < 8
    · rw [if_pos (by omega)]
      simp [h8, hj, show ¬ 64 ≤ j by omega]
    · simp [h8]
  rw [key, by_class w hi]
theorem byN_lt (w : Int64) (i : Nat) : byN w i < 256 := Nat.mod_lt _ (by decide)
def tpS (S : St) (t : Nat) (b : Int32) : St := pI (pI S 51 t b) 50 2 (nI (t + 1))
theorem c_tapeAppend {Γ : GG} {S : St} {t : Nat} {b : Int32} (h : S.1 50 2 = nI t) (ht : t < 400) : kX8_append Γ [.ref (Γ.1 50), .int b] S (rV (tpS S t b)) := by
  refine oX8_append (fun X hX hE => ?_)
  refine g_aload_n (i := 0) hX dX8_append_0 rfl rfl ?_
  refine fX8_20 hX dX8_append_1 ?_
  refine g_sipush hX dX8_append_4 sp400 ?_
  refine sX8_36 hX ⟨Nat.le_of_ble_eq_true rfl, Nat.le_of_ble_eq_true rfl⟩ (Nat.le_of_ble_eq_true rfl) dX8_append_7 ((by rw [h]; exact isB_t (n := 400) ht (by decide))) ?_
  refine g_if_eq (tgt := 33) hX dX8_append_10 (by decide) (fun h9 => absurd h9 ((by decide))) (fun _ => ?_)
  refine g_aload_n (i := 0) hX dX8_append_13 rfl rfl ?_
  refine fX8_9 hX dX8_append_14 ?_
  refine g_aload_n (i := 0) hX dX8_append_17 rfl rfl ?_
  refine fX8_20 hX dX8_append_18 ?_
  refine g_iload_n (i := 1) hX dX8_append_21 rfl rfl ?_
  refine g_iastoreN hX (ia51) (h) (ht) (by first | decide | assumption | omega) dX8_append_22 ?_
  refine g_aload_n (i := 0) hX dX8_append_23 rfl rfl ?_
  refine g_dup hX dX8_append_24 rfl ?_
  refine fX8_20 hX dX8_append_25 ?_
  refine g_iconst hX dX8_append_28 ic1 ?_
  refine g_iadd hX dX8_append_29 ?_
  refine pX8_20 hX dX8_append_30 ?_
  refine g_vret (st := []) hX hE rfl dX8_append_33 (⟨rfl, ?_⟩)
  show pI _ 50 2 (S.1 50 2 + 1) = _
  rw [h, nI_1]; rfl
theorem step_feed {Γ : GG} (x1 : Int64) (x2 : Int32) : Step (fun S P => kX9_feed Γ [.ref (Γ.1 48), .long x1, .int x2] S P) (fun S P => kX10_feed Γ [.ref (Γ.1 67), .long x1, .int x2] S P) := by
  intro S hR
  have l1 : (1 : Int64).toInt = 1 := by decide
  have l8 : (8 : Int64).toInt = 8 := by decide
  by_cases h2 : 1 ≤ x2.toInt ∧ x2.toInt ≤ 8
  case neg =>
    refine ⟨-1000001, fun S1 => S1 = S, ?_, ?_⟩
    · refine oX9_feed (fun X hX hE => ?_)
      by_cases q : x2 < 1
      · refine g_iload_n (i := 3) hX dX9_feed_0 rfl rfl ?_
        refine g_iconst hX dX9_feed_1 ic1 ?_
        refine g_icmp_lt (tgt := 11) hX dX9_feed_2 (by decide) (fun _ => ?_) (fun h9 => absurd (q) h9)
        refine g_ldc hX ccX9_100 dX9_feed_11 ?_
        refine g_iret (st := []) hX hE rfl dX9_feed_13 (⟨_, rfl, rfl, rfl⟩)
      · refine g_iload_n (i := 3) hX dX9_feed_0 rfl rfl ?_
        refine g_iconst hX dX9_feed_1 ic1 ?_
        refine g_icmp_lt (tgt := 11) hX dX9_feed_2 (by decide) (fun h9 => absurd h9 (q)) (fun _ => ?_)
        refine g_iload_n (i := 3) hX dX9_feed_5 rfl rfl ?_
        refine g_bipush hX dX9_feed_6 bp8 ?_
        refine g_icmp_le (tgt := 14) hX dX9_feed_8 (by decide) (fun h9 => absurd h9 ((by rw [i_lt, t1] at q; rw [i_le, show (8 : Int32).toInt = 8 by decide]; omega))) (fun _ => ?_)
        refine g_ldc hX ccX9_100 dX9_feed_11 ?_
        refine g_iret (st := []) hX hE rfl dX9_feed_13 (⟨_, rfl, rfl, rfl⟩)
    · rintro S1 rfl
      refine oX10_feed (fun X hX hE => ?_)
      refine g_aload_n (i := 0) hX dX10_feed_0 rfl rfl ?_
      refine g_iconst hX dX10_feed_1 ic0 ?_
      refine pX10_78 hX dX10_feed_2 ?_
      refine g_iload_n (i := 3) hX dX10_feed_5 rfl rfl ?_
      refine g_i2l hX dX10_feed_6 ?_
      refine g_lconst (v := 1) hX dX10_feed_7 (by decide) ?_
      refine g_ldc2_w hX ccX10_130 dX10_feed_8 ?_
      refine sX10_87 hX ⟨Nat.le_of_ble_eq_true rfl, Nat.le_of_ble_eq_true rfl⟩ (Nat.le_of_ble_eq_true rfl) dX10_feed_11 (c_inI_f (by rw [l1, l8]; exact h2)) ?_
      refine g_if_ne (tgt := 20) hX dX10_feed_14 (by decide) (fun h9 => absurd (rfl) h9) (fun _ => ?_)
      refine g_ldc hX ccX10_97 dX10_feed_17 ?_
      refine g_iret (st := []) hX hE rfl dX10_feed_19 (⟨_, rfl, rfl, hR.thrown⟩)
  obtain ⟨n, hn1, hn8, rfl⟩ : ∃ n, 1 ≤ n ∧ n ≤ 8 ∧ x2 = nI n := ⟨x2.toInt.toNat, by omega, by omega, nI_nat (by omega)⟩
  clear h2
  have hn1' : ¬ nI n < 1 := by rw [i_lt, t1, nI_toInt (by omega)]; omega
  have hn8' : nI n ≤ 8 := by rw [i_le, show (8 : Int32).toInt = 8 by decide, nI_toInt (by omega)]; omega
  have cB : ∀ T : St, kX10_in Γ [.long (nI n).toInt64, .long 1, .long 8] T (rI 1 T) := fun T => c_inI_t (by rw [nI_toInt (by omega), l1]; omega) (by rw [nI_toInt (by omega), l8]; omega)
  obtain ⟨N, N4, c1, c2, c3⟩ := hR.2.2.2.2.2.1
  have e400 : (400 : Int32) - S.1 50 2 = nI (400 - N) := by rw [c1, show (400 : Int32) = nI 400 from rfl, nI_sub N4]
  by_cases hfull : N + n ≤ 400
  case neg =>
    refine ⟨-1000003, fun S1 => S1 = S, ?_, ?_⟩
    · refine oX9_feed (fun X hX hE => ?_)
      refine g_iload_n (i := 3) hX dX9_feed_0 rfl rfl ?_
      refine g_iconst hX dX9_feed_1 ic1 ?_
      refine g_icmp_lt (tgt := 11) hX dX9_feed_2 (by decide) (fun h9 => absurd h9 (hn1')) (fun _ => ?_)
      refine g_iload_n (i := 3) hX dX9_feed_5 rfl rfl ?_
      refine g_bipush hX dX9_feed_6 bp8 ?_
      refine g_icmp_le (tgt := 14) hX dX9_feed_8 (by decide) (fun _ => ?_) (fun h9 => absurd (hn8') h9)
      refine g_iload_n (i := 3) hX dX9_feed_14 rfl rfl ?_
      refine g_sipush hX dX9_feed_15 sp400 ?_
      refine g_aload_n (i := 0) hX dX9_feed_18 rfl rfl ?_
      refine fX9_31 hX dX9_feed_19 ?_
      refine fX9_173 hX dX9_feed_22 ?_
      refine g_isub hX dX9_feed_25 ?_
      refine g_icmp_le (tgt := 32) hX dX9_feed_26 (by decide) (fun h9 => absurd h9 ((by rw [e400]; exact nI_ge (by omega) (by omega)))) (fun _ => ?_)
      refine g_ldc hX ccX9_140 dX9_feed_29 ?_
      refine g_iret (st := []) hX hE rfl dX9_feed_31 (⟨_, rfl, rfl, rfl⟩)
    · rintro S1 rfl
      refine oX10_feed (fun X hX hE => ?_)
      have e67 : (S0 S1).1 67 13 = nI N := c2
      refine g_aload_n (i := 0) hX dX10_feed_0 rfl rfl ?_
      refine g_iconst hX dX10_feed_1 ic0 ?_
      refine pX10_78 hX dX10_feed_2 ?_
      refine g_iload_n (i := 3) hX dX10_feed_5 rfl rfl ?_
      refine g_i2l hX dX10_feed_6 ?_
      refine g_lconst (v := 1) hX dX10_feed_7 (by decide) ?_
      refine g_ldc2_w hX ccX10_130 dX10_feed_8 ?_
      refine sX10_87 hX ⟨Nat.le_of_ble_eq_true rfl, Nat.le_of_ble_eq_true rfl⟩ (Nat.le_of_ble_eq_true rfl) dX10_feed_11 (cB _) ?_
      refine g_if_ne (tgt := 20) hX dX10_feed_14 (by decide) (fun _ => ?_) (fun h9 => absurd h9 ((by decide)))
      refine g_aload_n (i := 0) hX dX10_feed_20 rfl rfl ?_
      refine fX10_132 hX dX10_feed_21 ?_
      refine g_iload_n (i := 3) hX dX10_feed_24 rfl rfl ?_
      refine g_iadd hX dX10_feed_25 ?_
      refine g_sipush hX dX10_feed_26 sp400 ?_
      refine g_icmp_le (tgt := 35) hX dX10_feed_29 (by decide) (fun h9 => absurd h9 ((by rw [e67, nI_add2]; exact nI_ge (a := 400) (by omega) (by omega)))) (fun _ => ?_)
      refine g_ldc hX ccX10_109 dX10_feed_32 ?_
      refine g_iret (st := []) hX hE rfl dX10_feed_34 (⟨_, rfl, rfl, hR.thrown⟩)
  refine ⟨nI (N + n), fun S1 => S1.1 50 2 = nI (N + n) ∧ (∀ j, j < N → S1.1 51 j = S.1 51 j) ∧ (∀ j, j < n → S1.1 51 (N + j) = nI (byN x1 (n - 1 - j))) ∧ Fq [51] [(50, 2)] S S1, ?_, ?_⟩
  · refine oX9_feed (fun X hX hE => ?_)
    have loop : ∀ d k T, d + k = n → T.1 50 2 = nI (N + k) → (∀ j, j < N → T.1 51 j = S.1 51 j) → (∀ j, j < k → T.1 51 (N + j) = nI (byN x1 (n - 1 - j))) → Fq [51] [(50, 2)] S T → G Γ X T 37 [(0, .ref (Γ.1 48)), (1, .long x1), (3, .int (nI n)), (4, .int (nI d + (-1)))] [] := by
      intro d
      induction d with
      | zero =>
        intro k T hk h1 h2 h3 hF
        obtain rfl : k = n := by omega
        refine g_iload hX dX9_feed_37 rfl ?_
        refine g_if_lt (tgt := 67) hX dX9_feed_39 (by decide) (fun _ => ?_) (fun h9 => absurd ((by decide)) h9)
        refine g_aload_n (i := 0) hX dX9_feed_67 rfl rfl ?_
        refine fX9_31 hX dX9_feed_68 ?_
        refine fX9_173 hX dX9_feed_71 ?_
        refine g_iret (st := []) hX hE rfl dX9_feed_74 (⟨_, rfl, h1, h1, h2, h3, hF⟩)
      | succ d ih =>
        intro k T hk h1 h2 h3 hF
        rw [pk_m1]
        refine g_iload hX dX9_feed_37 rfl ?_
        refine g_if_lt (tgt := 67) hX dX9_feed_39 (by decide) (fun h9 => absurd h9 (nI_pos (by omega))) (fun _ => ?_)
        refine g_aload_n (i := 0) hX dX9_feed_42 rfl rfl ?_
        refine fX9_31 hX dX9_feed_43 ?_
        refine g_lload_n (i := 1) hX dX9_feed_46 rfl rfl ?_
        refine g_bipush hX dX9_feed_47 bp8 ?_
        refine g_iload hX dX9_feed_49 rfl ?_
        refine g_imul hX dX9_feed_51 ?_
        refine g_lushr hX dX9_feed_52 ?_
        refine g_l2i hX dX9_feed_53 ?_
        refine g_sipush hX dX9_feed_54 sp255 ?_
        refine g_iand hX dX9_feed_57 ?_
        refine sX9_174 hX ⟨Nat.le_of_ble_eq_true rfl, Nat.le_of_ble_eq_true rfl⟩ (Nat.le_of_ble_eq_true rfl) dX9_feed_58 (c_tapeAppend h1 (by omega)) ?_
        refine g_iinc hX dX9_feed_61 rfl icm1 (by decide) rfl ?_
        refine g_goto (tgt := 37) hX dX9_feed_64 (by decide) ?_
        rw [by_class x1 (by omega)]
        refine ih (k + 1) _ (by omega) ?_ ?_ ?_ ?_
        · unfold tpS; rw [pR_self, upd_self]; rfl
        · intro j hj
          show upd (T.1 51) (N + k) _ j = _
          rw [upd_ne _ _ (by omega), h2 j hj]
        · intro j hj
          show upd (T.1 51) (N + k) _ (N + j) = _
          by_cases e : j = k
          · subst e; rw [upd_self]; congr 2; omega
          · rw [upd_ne _ _ (by omega), h3 j (by omega)]
        · exact (hF.R (by decide)).I (by decide)
    refine g_iload_n (i := 3) hX dX9_feed_0 rfl rfl ?_
    refine g_iconst hX dX9_feed_1 ic1 ?_
    refine g_icmp_lt (tgt := 11) hX dX9_feed_2 (by decide) (fun h9 => absurd h9 (hn1')) (fun _ => ?_)
    refine g_iload_n (i := 3) hX dX9_feed_5 rfl rfl ?_
    refine g_bipush hX dX9_feed_6 bp8 ?_
    refine g_icmp_le (tgt := 14) hX dX9_feed_8 (by decide) (fun _ => ?_) (fun h9 => absurd (hn8') h9)
    refine g_iload_n (i := 3) hX dX9_feed_14 rfl rfl ?_
    refine g_sipush hX dX9_feed_15 sp400 ?_
    refine g_aload_n (i := 0) hX dX9_feed_18 rfl rfl ?_
    refine fX9_31 hX dX9_feed_19 ?_
    refine fX9_173 hX dX9_feed_22 ?_
    refine g_isub hX dX9_feed_25 ?_
    refine g_icmp_le (tgt := 32) hX dX9_feed_26 (by decide) (fun _ => ?_) (fun h9 => absurd ((by rw [e400]; exact nI_le (by omega) (by omega))) h9)
    refine g_iload_n (i := 3) hX dX9_feed_32 rfl rfl ?_
    refine g_iconst hX dX9_feed_33 ic1 ?_
    refine g_isub hX dX9_feed_34 ?_
    refine g_istore hX dX9_feed_35 (by decide) rfl ?_
    rw [sub1]
    exact loop n 0 S (by omega) c1 (fun _ _ => rfl) (fun j hj => absurd hj (by omega)) Fq.rf
  · rintro S1 ⟨a1, a2, a3, hF1⟩
    refine oX10_feed (fun X hX hE => ?_)
    have e67 : (S0 S1).1 67 13 = nI N := by show S1.1 67 13 = _; rw [(hF1.s (k := 67) (j := 13) (by decide)).1]; exact c2
    have e78 : S1.1 78 = S.1 78 := hF1.r (by decide)
    have loop : ∀ d k T, d + k = n → T.1 67 13 = nI (N + k) → (∀ j, j < N → T.1 78 j = S.1 78 j) → (∀ j, j < k → T.1 78 (N + j) = nI (byN x1 (n - 1 - j))) → Fq [78] [(67, 0), (67, 13)] S1 T → G Γ X T 40 [(0, .ref (Γ.1 67)), (1, .long x1), (3, .int (nI n)), (4, .int (nI d + (-1)))] [] := by
      intro d
      induction d with
      | zero =>
        intro k T hk h1 h2 h3 hF
        obtain rfl : k = n := by omega
        refine g_iload hX dX10_feed_40 rfl ?_
        refine g_if_lt (tgt := 82) hX dX10_feed_42 (by decide) (fun _ => ?_) (fun h9 => absurd ((by decide)) h9)
        refine g_aload_n (i := 0) hX dX10_feed_82 rfl rfl ?_
        refine fX10_132 hX dX10_feed_83 ?_
        refine g_iret (st := []) hX hE rfl dX10_feed_86 (⟨_, rfl, h1, ?_⟩)
        have hFF : Fq [51, 78] [(50, 2), (67, 0), (67, 13)] S T := (hF1.mono (by decide) (by decide)).tr (hF.mono (by decide) (by decide))
        have hT : TpRel T := by
          refine ⟨N + k, hfull, by rw [(hF.s (k := 50) (j := 2) (by decide)).1]; exact a1, h1, fun j hj => ?_⟩
          rw [hF.r (k := 51) (by decide)]
          by_cases e : j < N
          · obtain ⟨c, q1, q2, q3⟩ := c3 j e
            exact ⟨c, q1, by rw [a2 j e]; exact q2, by rw [h2 j e]; exact q3⟩
          · obtain ⟨i, rfl⟩ : ∃ i, j = N + i := ⟨j - N, by omega⟩
            exact ⟨_, byN_lt _ _, a3 i (by omega), h3 i (by omega)⟩
        obtain ⟨r1, r2, r3, r4, r5, r6, r7, r8, r9⟩ := hR
        exact ⟨r1.q hFF (by decide), r2.q hFF (by decide), r3.q hFF (by decide), r4.q hFF (by decide), r5.q hFF (by decide), hT, r7.q hFF (by decide), r8.q hFF (by decide), r9.q hFF (by decide)⟩
      | succ d ih =>
        intro k T hk h1 h2 h3 hF
        rw [pk_m1]
        refine g_iload hX dX10_feed_40 rfl ?_
        refine g_if_lt (tgt := 82) hX dX10_feed_42 (by decide) (fun h9 => absurd h9 (nI_pos (by omega))) (fun _ => ?_)
        refine g_aload_n (i := 0) hX dX10_feed_45 rfl rfl ?_
        refine fX10_41 hX dX10_feed_46 ?_
        refine g_aload_n (i := 0) hX dX10_feed_49 rfl rfl ?_
        refine fX10_132 hX dX10_feed_50 ?_
        refine g_lload_n (i := 1) hX dX10_feed_53 rfl rfl ?_
        refine g_bipush hX dX10_feed_54 bp8 ?_
        refine g_iload hX dX10_feed_56 rfl ?_
        refine g_imul hX dX10_feed_58 ?_
        refine g_lshr hX dX10_feed_59 ?_
        refine g_ldc2_w hX ccX10_135 dX10_feed_60 ?_
        refine g_land hX dX10_feed_63 ?_
        refine g_l2i hX dX10_feed_64 ?_
        refine g_iastoreN hX (ia78) (h1) ((show N + k < 400 by omega)) (by first | decide | assumption | omega) dX10_feed_65 ?_
        refine g_aload_n (i := 0) hX dX10_feed_66 rfl rfl ?_
        refine g_dup hX dX10_feed_67 rfl ?_
        refine fX10_132 hX dX10_feed_68 ?_
        refine g_iconst hX dX10_feed_71 ic1 ?_
        refine g_iadd hX dX10_feed_72 ?_
        refine pX10_132 hX dX10_feed_73 ?_
        refine g_iinc hX dX10_feed_76 rfl icm1 (by decide) rfl ?_
        refine g_goto (tgt := 40) hX dX10_feed_79 (by decide) ?_
        rw [by_ref x1 (by omega)]
        refine ih (k + 1) _ (by omega) ?_ ?_ ?_ ?_
        · rw [pR_self, upd_self]
          show T.1 67 13 + 1 = _
          rw [h1, nI_1]; rfl
        · intro j hj
          show upd (T.1 78) (N + k) _ j = _
          rw [upd_ne _ _ (by omega), h2 j hj]
        · intro j hj
          show upd (T.1 78) (N + k) _ (N + j) = _
          by_cases e : j = k
          · subst e; rw [upd_self]; congr 2; omega
          · rw [upd_ne _ _ (by omega), h3 j (by omega)]
        · exact (hF.R (by decide)).I (by decide)
    refine g_aload_n (i := 0) hX dX10_feed_0 rfl rfl ?_
    refine g_iconst hX dX10_feed_1 ic0 ?_
    refine pX10_78 hX dX10_feed_2 ?_
    refine g_iload_n (i := 3) hX dX10_feed_5 rfl rfl ?_
    refine g_i2l hX dX10_feed_6 ?_
    refine g_lconst (v := 1) hX dX10_feed_7 (by decide) ?_
    refine g_ldc2_w hX ccX10_130 dX10_feed_8 ?_
    refine sX10_87 hX ⟨Nat.le_of_ble_eq_true rfl, Nat.le_of_ble_eq_true rfl⟩ (Nat.le_of_ble_eq_true rfl) dX10_feed_11 (cB _) ?_
    refine g_if_ne (tgt := 20) hX dX10_feed_14 (by decide) (fun _ => ?_) (fun h9 => absurd h9 ((by decide)))
    refine g_aload_n (i := 0) hX dX10_feed_20 rfl rfl ?_
    refine fX10_132 hX dX10_feed_21 ?_
    refine g_iload_n (i := 3) hX dX10_feed_24 rfl rfl ?_
    refine g_iadd hX dX10_feed_25 ?_
    refine g_sipush hX dX10_feed_26 sp400 ?_
    refine g_icmp_le (tgt := 35) hX dX10_feed_29 (by decide) (fun _ => ?_) (fun h9 => absurd ((by rw [e67, nI_add2]; exact nI_le (b := 400) (by omega) (by omega))) h9)
    refine g_iload_n (i := 3) hX dX10_feed_35 rfl rfl ?_
    refine g_iconst hX dX10_feed_36 ic1 ?_
    refine g_isub hX dX10_feed_37 ?_
    refine g_istore hX dX10_feed_38 (by decide) rfl ?_
    rw [sub1]
    exact loop n 0 _ (by omega) e67 (fun j _ => by show S1.1 78 j = _; rw [e78]) (fun j hj => absurd hj (by omega)) (Fq.rf.I (by decide))
